import java.util.List;
import java.util.Random;

/** Promises 5 to 14 at once: long runs of calls, made by fixed seeds, against the model's answers. */
public final class ModelTest {
    private static final int RUNS = 6000;
    /** So many calls are kept for a last look. */
    private static final int LAST_LOOK = 120;
    /** No step takes more: 81 bytes in words of one to four, what is asked, and some. */
    private static final int DEAREST_STEP = 100;

    private final Random random;
    private final String name;
    private final Craft x = new Craft();
    private final Model model = new Model();
    private final int channel;
    /** Short packets, many to a frame, sent at once: so the journal is full now and then. */
    private final boolean hasty;
    private int minute = 0;
    private int period = 1;

    private ModelTest(int seed) {
        random = new Random(seed);
        name = "seed " + seed;
        channel = seed % 2;
        hasty = seed % 3 == 0;
    }

    public static void main(String[] args) {
        for (int seed = 0; seed < RUNS; seed++) {
            new ModelTest(seed).run();
        }
        Due.end();
    }

    private void run() {
        // Few sends fill the store.
        int sendsOfTen = hasty ? 7 : random.nextInt(8);
        int shortest = !hasty && random.nextInt(3) == 0 ? 1 : 4;
        hand(shortest, Lander.hail(channel));
        while (x.callsLeft() > LAST_LOOK + DEAREST_STEP) {
            if (model.out) {
                refusesWhileOut();
                power();
            } else if (random.nextInt(60) == 0) {
                power();
            } else if (random.nextInt(25) == 0) {
                int writes = 1 + random.nextInt(hasty ? 100 : 12);
                x.fail(writes);
                model.failAt = model.writes + writes;
            } else if (random.nextInt(40) == 0) {
                period = 1 + random.nextInt(3);
                x.window(0, 1, period, 1);
            } else if (random.nextInt(10) < sendsOfTen) {
                int to = random.nextInt(2);
                Due.equal(name + " send", x.send(to), model.send(to));
            } else {
                hand(shortest, someBytes());
            }
            if (random.nextInt(8) == 0) {
                minute++;
                Due.equal(name + " minute", x.minute(1), minute);
            }
            ask(hasty ? 0 : random.nextInt(4));
        }
        compareAll(name + " at last");
    }

    private void refusesWhileOut() {
        Due.unsupported(name + " receive", () -> x.receive(250, 1));
        Due.unsupported(name + " report", x::report);
        Due.unsupported(name + " send", () -> x.send(0));
        Due.unsupported(name + " fail", () -> x.fail(1));
    }

    private void power() {
        Due.equal(name + " power", x.power(), model.power());
        if (random.nextInt(8) > 0) {
            hand(4, Lander.hail(channel));
        }
    }

    private void hand(int shortest, int... bytes) {
        boolean seen = (minute + 1) % period < 1;
        int from = 0;
        while (from < bytes.length && !model.out) {
            int n = Math.min(shortest + random.nextInt(5 - shortest), bytes.length - from);
            int word = random.nextInt();
            for (int k = 0; k < n; k++) {
                word = word << 8 | bytes[from + k];
            }
            int want = model.receive(seen, Lander.part(bytes, from, from + n));
            Due.equal(name + " receive", x.receive(word, n), want);
            from += n;
        }
        Due.equal(name + " out", x.out() ? 1 : 0, model.out ? 1 : 0);
    }

    private int[] someBytes() {
        int[] frame = someFrame();
        switch (random.nextInt(24)) {
            case 0:
                frame[random.nextInt(frame.length)] ^= 1 << random.nextInt(8);
                return frame;
            case 1:
                return Lander.part(frame, 0, 1 + random.nextInt(frame.length - 1));
            case 2:
                int[] begun = {250, 243, 32, 128 + random.nextInt(64), 77, 0, random.nextInt(70)};
                return Lander.join(begun, frame);
            case 3:
                return Lander.join(Lander.row(250, 243), frame, Lander.row(250));
            default:
                return frame;
        }
    }

    private int[] someFrame() {
        int to = random.nextInt(25) == 0 ? 1 - channel : channel;
        int v = model.report() & 255;
        int number = random.nextInt(6) > 0 ? v : v + random.nextInt(256) & 255;
        int quality = random.nextInt(4) == 0 ? Lander.EXPEDITED : Lander.SEQUENCED;
        int kind = random.nextInt(30);
        if (kind == 0) {
            int bits = quality | Lander.DIRECTIVE | anyForm();
            return Lander.frame(bits, to, number, random.nextInt(5), random.nextInt(256));
        }
        if (kind == 1) {
            return Lander.frameOf(random.nextInt(3) + 76, quality, to, number, somePackets());
        }
        if (kind == 2) {
            return Lander.frame(quality | anyForm() | random.nextInt(2) << 4, to, number);
        }
        if (kind == 3) {
            int[] data = random.nextBoolean() ? someSegment() : somePackets();
            return Lander.frame(quality | anyForm(), to, number, data);
        }
        if (hasty) {
            return Lander.frame(quality, to, number, Lander.sevens(random.nextInt(2048), 1 + random.nextInt(8)));
        }
        if (kind < 13) {
            return Lander.frame(quality | Lander.SEGMENT, to, number, someSegment());
        }
        return Lander.frame(quality, to, number, somePackets());
    }

    private int anyForm() {
        return random.nextInt(4) << 2;
    }

    private int[] somePackets() {
        int[] data = new int[0];
        int wanted = 1 + random.nextInt(4);
        for (int k = 0; k < wanted; k++) {
            int left = 59 - data.length;
            if (left >= 7) {
                int length = 7 + random.nextInt(Math.min(left - 6, k == 0 && random.nextBoolean() ? 53 : 20));
                int[] packet = Lander.packet(random.nextInt(2048), length);
                if (random.nextInt(40) == 0) {
                    packet[random.nextInt(6)] ^= 1 << random.nextInt(8);
                }
                data = Lander.join(data, packet);
            }
        }
        return data;
    }

    /** Parts of one packet of 48 bytes for each stream, cut at the same places, so that they often fit. */
    private int[] someSegment() {
        int stream = random.nextInt(20) == 0 ? random.nextInt(64) : random.nextInt(3);
        int[] packet = Lander.packet(100 + stream, 48);
        switch (random.nextInt(7)) {
            case 0:
                return Lander.join(Lander.row(Lander.FIRST | stream), Lander.part(packet, 0, 16));
            case 1:
                return Lander.join(Lander.row(Lander.MIDDLE | stream), Lander.part(packet, 16, 32));
            case 2:
                return Lander.join(Lander.row(Lander.LAST | stream), Lander.part(packet, 32, 48));
            case 3:
                return Lander.join(Lander.row(Lander.FIRST | stream), Lander.part(packet, 0, 32));
            case 4:
                return Lander.row(Lander.MIDDLE | stream);
            case 5:
                return Lander.join(Lander.row(Lander.WHOLE | stream), packet);
            default:
                return Lander.join(Lander.row(Lander.LAST | stream), Lander.part(packet, 32, 48));
        }
    }

    private void ask(int questions) {
        List<Model.Entry> there = model.packets();
        for (int k = 0; k < questions; k++) {
            int i = random.nextInt(there.size() + 1);
            switch (random.nextInt(5)) {
                case 0:
                    compareStore(name, random.nextInt(4), there);
                    break;
                case 1:
                    compareReport(name);
                    break;
                case 2:
                    compareSent(name, random.nextInt(32));
                    break;
                case 3:
                    comparePacket(name, i, random.nextInt(5), there);
                    break;
                default:
                    compareContent(name, i, random.nextInt(60), there);
                    break;
            }
        }
    }

    /** As far as the calls last; what tells most comes first. */
    private void compareAll(String what) {
        List<Model.Entry> there = model.packets();
        for (int of = 0; of < 4; of++) {
            compareStore(what, of, there);
        }
        compareReport(what);
        for (int i = 0; i < 32; i++) {
            compareSent(what, i);
        }
        for (int k = 0; x.callsLeft() > 0 && k < 5 * there.size(); k++) {
            comparePacket(what, k / 5, k % 5, there);
        }
        for (int i = 0; i <= there.size(); i++) {
            for (int k = 0; x.callsLeft() > 0 && k <= 60; k++) {
                compareContent(what, i, k, there);
            }
        }
    }

    private void compareStore(String what, int of, List<Model.Entry> there) {
        int[] want = {there.size(), model.freeBlocks().size(), model.journal.size(), model.writes};
        Due.equal(what + " store " + of, x.store(of), want[of]);
    }

    private void compareReport(String what) {
        if (model.out) {
            Due.unsupported(what + " report", x::report);
        } else {
            Due.equal(what + " report", x.report(), model.report());
        }
    }

    private void compareSent(String what, int i) {
        if (model.sent == null) {
            Due.badIndex(what + " sent " + i, () -> x.sent(i));
        } else {
            Due.equal(what + " sent " + i, x.sent(i), model.sent[i]);
        }
    }

    private void comparePacket(String what, int i, int of, List<Model.Entry> there) {
        if (i >= there.size()) {
            Due.badIndex(what + " packet " + i, () -> x.packet(i, of));
            return;
        }
        Model.Entry packet = there.get(i);
        int[] bytes = packet.bytes();
        int emitted = model.emitted.getOrDefault(packet.number(), 0);
        int apid = bytes[0] % 8 * 256 + bytes[1];
        int[] want = {packet.number(), bytes.length, apid, packet.blocks().get(0), emitted};
        Due.equal(what + " packet " + i + " " + of, x.packet(i, of), want[of]);
    }

    private void compareContent(String what, int i, int k, List<Model.Entry> there) {
        if (i >= there.size() || k >= there.get(i).bytes().length) {
            Due.badIndex(what + " content " + i + " " + k, () -> x.content(i, k));
            return;
        }
        Model.Entry packet = there.get(i);
        Due.equal("the model's block", model.content(packet, k), packet.bytes()[k]);
        Due.equal(what + " content " + i + " " + k, x.content(i, k), packet.bytes()[k]);
    }
}
