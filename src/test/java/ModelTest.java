import java.util.List;
import java.util.Random;

/** Promises 5 to 14 at once: long runs of calls, made by fixed seeds, against the model's answers. */
public final class ModelTest {
    private static final int RUNS = 400;
    private static final int STEPS = 160;

    private final Random random;
    private final String name;
    private final RelayOrbiter x = new RelayOrbiter();
    private final Model model = new Model();
    private final int channel;
    private int minute = 0;
    private int period = 1;

    private ModelTest(int seed) {
        random = new Random(seed);
        name = "seed " + seed;
        channel = seed % 2;
    }

    public static void main(String[] args) {
        for (int seed = 0; seed < RUNS; seed++) {
            new ModelTest(seed).run();
        }
        Due.end();
    }

    private void run() {
        // Few sends fill the store, many fill the journal.
        int sendsOfTen = random.nextInt(6);
        hand(Lander.hail(channel));
        for (int step = 0; step < STEPS; step++) {
            if (model.out) {
                refusesWhileOut();
                power();
            } else if (random.nextInt(60) == 0) {
                power();
            } else if (random.nextInt(25) == 0) {
                int writes = 1 + random.nextInt(12);
                x.fail(writes);
                model.failAt = model.writes + writes;
            } else if (random.nextInt(40) == 0) {
                period = 1 + random.nextInt(3);
                x.window(0, 1, period, 1);
            } else if (random.nextInt(10) < sendsOfTen) {
                int to = random.nextInt(2);
                Due.equal(name + " send", x.send(to), model.send(to));
            } else {
                hand(someBytes());
            }
            minute++;
            x.minute(1);
            compare(name + ", step " + step);
        }
    }

    private void refusesWhileOut() {
        Due.unsupported(name + " receive", () -> x.receive(250, 1));
        Due.unsupported(name + " report", x::report);
        Due.unsupported(name + " send", () -> x.send(0));
        Due.unsupported(name + " fail", () -> x.fail(1));
    }

    private void power() {
        Due.equal(name + " power", x.power(), model.power());
        if (random.nextInt(8) > 0) {
            hand(Lander.hail(channel));
        }
    }

    private void hand(int... bytes) {
        boolean seen = (minute + 1) % period < 1;
        int from = 0;
        while (from < bytes.length && !model.out) {
            int n = Math.min(1 + random.nextInt(4), bytes.length - from);
            int word = random.nextInt();
            for (int k = 0; k < n; k++) {
                word = word << 8 | bytes[from + k];
            }
            int want = model.receive(seen, Lander.part(bytes, from, from + n));
            Due.equal(name + " receive", x.receive(word, n), want);
            Due.equal(name + " out", x.out() ? 1 : 0, model.out ? 1 : 0);
            from += n;
        }
    }

    private int[] someBytes() {
        int[] frame = someFrame();
        switch (random.nextInt(24)) {
            case 0:
                frame[random.nextInt(frame.length)] ^= 1 << random.nextInt(8);
                return frame;
            case 1:
                return Lander.part(frame, 0, 1 + random.nextInt(frame.length - 1));
            case 2:
                int[] begun = {250, 243, 32, 128 + random.nextInt(64), 77, 0, random.nextInt(70)};
                return Lander.join(begun, frame);
            case 3:
                return Lander.join(Lander.row(250, 243), frame, Lander.row(250));
            default:
                return frame;
        }
    }

    private int[] someFrame() {
        int to = random.nextInt(25) == 0 ? 1 - channel : channel;
        int v = model.report() & 255;
        int number = random.nextInt(6) > 0 ? v : v + random.nextInt(256) & 255;
        int quality = random.nextInt(4) == 0 ? Lander.EXPEDITED : Lander.SEQUENCED;
        int kind = random.nextInt(30);
        if (kind == 0) {
            int bits = quality | Lander.DIRECTIVE | anyForm();
            return Lander.frame(bits, to, number, random.nextInt(5), random.nextInt(256));
        }
        if (kind == 1) {
            return Lander.frameOf(random.nextInt(3) + 76, quality, to, number, somePackets());
        }
        if (kind == 2) {
            return Lander.frame(quality | anyForm() | random.nextInt(2) << 4, to, number);
        }
        if (kind == 3) {
            int[] data = random.nextBoolean() ? someSegment() : somePackets();
            return Lander.frame(quality | anyForm(), to, number, data);
        }
        if (kind < 13) {
            return Lander.frame(quality | Lander.SEGMENT, to, number, someSegment());
        }
        return Lander.frame(quality, to, number, somePackets());
    }

    private int anyForm() {
        return random.nextInt(4) << 2;
    }

    private int[] somePackets() {
        int[] data = new int[0];
        int wanted = 1 + random.nextInt(4);
        for (int k = 0; k < wanted; k++) {
            int left = 59 - data.length;
            if (left >= 7) {
                int length = 7 + random.nextInt(Math.min(left - 6, k == 0 && random.nextBoolean() ? 53 : 20));
                int[] packet = Lander.packet(random.nextInt(2048), length);
                if (random.nextInt(40) == 0) {
                    packet[random.nextInt(6)] ^= 1 << random.nextInt(8);
                }
                data = Lander.join(data, packet);
            }
        }
        return data;
    }

    /** Parts of one packet of 48 bytes for each stream, cut at the same places, so that they often fit. */
    private int[] someSegment() {
        int stream = random.nextInt(20) == 0 ? random.nextInt(64) : random.nextInt(3);
        int[] packet = Lander.packet(100 + stream, 48);
        switch (random.nextInt(7)) {
            case 0:
                return Lander.join(Lander.row(Lander.FIRST | stream), Lander.part(packet, 0, 16));
            case 1:
                return Lander.join(Lander.row(Lander.MIDDLE | stream), Lander.part(packet, 16, 32));
            case 2:
                return Lander.join(Lander.row(Lander.LAST | stream), Lander.part(packet, 32, 48));
            case 3:
                return Lander.join(Lander.row(Lander.FIRST | stream), Lander.part(packet, 0, 32));
            case 4:
                return Lander.row(Lander.MIDDLE | stream);
            case 5:
                return Lander.join(Lander.row(Lander.WHOLE | stream), packet);
            default:
                return Lander.join(Lander.row(Lander.LAST | stream), Lander.part(packet, 32, 48));
        }
    }

    private void compare(String what) {
        List<Model.Entry> there = model.packets();
        Due.equal(what + " out", x.out() ? 1 : 0, model.out ? 1 : 0);
        Due.equal(what + " packets", x.store(0), there.size());
        Due.equal(what + " free", x.store(1), model.freeBlocks().size());
        Due.equal(what + " entries", x.store(2), model.journal.size());
        Due.equal(what + " writes", x.store(3), model.writes);
        if (!model.out) {
            Due.equal(what + " report", x.report(), model.report());
        }
        for (int i = 0; i < there.size() && i < x.store(0); i++) {
            comparePacket(what + ", packet " + i, i, there.get(i));
        }
        if (model.sent != null) {
            for (int i = 0; i < 32; i++) {
                Due.equal(what + " sent " + i, x.sent(i), model.sent[i]);
            }
        }
        Due.badIndex(what + " packet behind the last", () -> x.packet(there.size(), 0));
    }

    private void comparePacket(String what, int i, Model.Entry want) {
        int[] bytes = want.bytes();
        Due.equal(what + " number", x.packet(i, 0), want.number());
        Due.equal(what + " length", x.packet(i, 1), bytes.length);
        Due.equal(what + " APID", x.packet(i, 2), bytes[0] % 8 * 256 + bytes[1]);
        Due.equal(what + " block", x.packet(i, 3), want.blocks().get(0));
        Due.equal(what + " emitted", x.packet(i, 4), model.emitted.getOrDefault(want.number(), 0));
        for (int k = 0; k < bytes.length; k++) {
            Due.equal(what + " byte " + k, x.content(i, k), model.content(want, k));
            Due.equal(what + " byte " + k + " as it came", x.content(i, k), bytes[k]);
        }
    }
}
