import java.util.ArrayList;
import java.util.Arrays;
import java.util.HashMap;
import java.util.List;
import java.util.Map;

/**
 * The document once more, told in another way: a journal that is read anew for every question,
 * streams as lists that are copied before they are changed, and power that fails by an exception.
 */
final class Model {
    private static final class PowerGone extends RuntimeException {
        private static final long serialVersionUID = 1L;
    }

    /** A packet's ADDED, or with bytes and blocks null, DROPPED. */
    record Entry(int number, int[] bytes, List<Integer> blocks) {
    }

    boolean out = false;
    int writes = 0;
    int failAt = -1;
    int greatest = -1;
    List<Entry> journal = new ArrayList<>();
    final int[][] blocks = new int[24][20];
    final Map<Integer, Integer> emitted = new HashMap<>();
    final int[] counts = new int[2];
    int[] sent = null;
    private final List<Integer> waiting = new ArrayList<>();
    private Map<Integer, List<Integer>> streams = new HashMap<>();
    private int sessionChannel = -1;
    private int v = 0;
    private int flag = 0;
    private int count = 0;

    List<Entry> packets() {
        List<Entry> there = new ArrayList<>();
        for (Entry e : journal) {
            if (e.bytes() != null) {
                there.add(e);
            } else {
                there.removeIf(p -> p.number() == e.number());
            }
        }
        return there;
    }

    List<Integer> freeBlocks() {
        List<Integer> free = new ArrayList<>();
        for (int b = 0; b < 24; b++) {
            free.add(b);
        }
        packets().forEach(p -> free.removeAll(p.blocks()));
        return free;
    }

    int content(Entry packet, int k) {
        return blocks[packet.blocks().get(k / 20)][k % 20];
    }

    int power() {
        out = false;
        failAt = -1;
        emitted.clear();
        streams.clear();
        waiting.clear();
        sessionChannel = -1;
        return packets().size();
    }

    int report() {
        return sessionChannel < 0 ? 0 : 32768 + 8192 * flag + 4096 * sessionChannel + 256 * count + v;
    }

    int receive(boolean seen, int... bytes) {
        int taken = 0;
        try {
            for (int b : bytes) {
                waiting.add(b);
                int[] frame = next();
                while (frame != null) {
                    taken++;
                    if (seen && frame[0] % 4 * 256 + frame[1] == 77) {
                        lookAt(frame);
                    }
                    frame = next();
                }
            }
        } catch (PowerGone e) {
            out = true;
        }
        return taken;
    }

    /** The next frame in what waits, or null if there is none yet. */
    private int[] next() {
        while (!waiting.isEmpty()) {
            int n = waiting.size();
            int[] all = waiting.stream().mapToInt(Integer::intValue).toArray();
            int[] mark = {250, 243, 32};
            int same = Math.min(3, n);
            if (Arrays.equals(all, 0, same, mark, 0, same)) {
                if (n < 4) {
                    return null;
                }
                if (all[3] / 64 == 2) {
                    if (n < 7) {
                        return null;
                    }
                    int length = all[5] % 8 * 256 + all[6] + 1;
                    if (length >= 5 && length <= 64) {
                        if (n < 3 + length + 4) {
                            return null;
                        }
                        int[] frame = Arrays.copyOfRange(all, 3, 3 + length);
                        int[] check = Arrays.copyOfRange(all, 3 + length, 3 + length + 4);
                        if (Arrays.equals(check, Lander.checkOf(frame))) {
                            waiting.subList(0, 3 + length + 4).clear();
                            return frame;
                        }
                    }
                }
            }
            waiting.remove(0);
        }
        return null;
    }

    private void lookAt(int... frame) {
        boolean expedited = frame[0] / 32 % 2 == 1;
        boolean directive = frame[0] / 16 % 2 == 1;
        int form = frame[0] / 4 % 4;
        int channel = frame[2] / 128;
        int[] data = Arrays.copyOfRange(frame, 5, frame.length);
        if (directive) {
            direct(channel, data);
        } else if (channel == sessionChannel) {
            if (expedited) {
                count = (count + 1) % 8;
                for (int[] p : packetsOf(form, data)) {
                    if (blocksFor(p) <= freeBlocks().size()) {
                        add(p);
                    }
                }
            } else {
                sequenced(frame[4], form, data);
            }
        }
    }

    private void direct(int channel, int... data) {
        if (data.length < 2) {
            return;
        }
        if (data[0] == 1) {
            sessionChannel = channel;
            v = 0;
            flag = 0;
            count = 0;
            streams.clear();
        } else if (data[0] == 2) {
            sessionChannel = -1;
        } else if (data[0] == 3 && channel == sessionChannel) {
            v = data[1];
            flag = 0;
        }
    }

    private void sequenced(int number, int form, int... data) {
        int above = Math.floorMod(number - v, 256);
        if (above == 0) {
            Map<Integer, List<Integer>> before = new HashMap<>();
            streams.forEach((s, part) -> before.put(s, new ArrayList<>(part)));
            List<int[]> found = packetsOf(form, data);
            if (found.stream().mapToInt(Model::blocksFor).sum() <= freeBlocks().size()) {
                found.forEach(this::add);
                v = (v + 1) % 256;
                flag = 0;
            } else {
                streams = before;
                flag = 1;
            }
        } else if (above <= 127) {
            flag = 1;
        }
    }

    private List<int[]> packetsOf(int form, int... data) {
        List<int[]> found = new ArrayList<>();
        if (form == 0) {
            int at = 0;
            while (lengthAt(at, data) > 0) {
                int end = at + lengthAt(at, data);
                found.add(Arrays.copyOfRange(data, at, end));
                at = end;
            }
        } else if (form == 1 && data.length > 0 && data[0] % 64 < 4) {
            int[] whole = segment(data[0] / 64, data[0] % 64, Arrays.copyOfRange(data, 1, data.length));
            if (lengthAt(0, whole) == whole.length && whole.length > 0) {
                found.add(whole);
            }
        }
        return found;
    }

    /** What a last segment has made whole: no bytes if nothing is. */
    private int[] segment(int kind, int stream, int... part) {
        if (kind == 1 || kind == 3) {
            streams.put(stream, new ArrayList<>());
        }
        List<Integer> all = streams.get(stream);
        if (all == null || all.size() + part.length > 60) {
            streams.remove(stream);
            return new int[0];
        }
        for (int b : part) {
            all.add(b);
        }
        if (kind < 2) {
            return new int[0];
        }
        streams.remove(stream);
        return all.stream().mapToInt(Integer::intValue).toArray();
    }

    private static int lengthAt(int at, int... row) {
        if (row.length - at < 7 || row[at] / 8 != 1) {
            return 0;
        }
        int length = row[at + 4] * 256 + row[at + 5] + 7;
        return at + length <= row.length ? length : 0;
    }

    private static int blocksFor(int... packet) {
        return packet.length > 40 ? 3 : packet.length > 20 ? 2 : 1;
    }

    private void wrote() {
        writes++;
        if (writes == failAt) {
            throw new PowerGone();
        }
    }

    private void add(int... packet) {
        List<Integer> mine = freeBlocks().subList(0, blocksFor(packet));
        for (int k = 0; k < packet.length; k++) {
            blocks[mine.get(k / 20)][k % 20] = packet[k];
            if (k % 20 == 19 || k == packet.length - 1) {
                wrote();
            }
        }
        enter(new Entry(greatest + 1, packet, List.copyOf(mine)));
    }

    private void enter(Entry entry) {
        if (journal.size() == 40) {
            journal = packets();
            wrote();
        }
        journal.add(entry);
        greatest = Math.max(greatest, entry.number());
        wrote();
    }

    int send(int channel) {
        List<Integer> zone = new ArrayList<>();
        List<Integer> done = new ArrayList<>();
        int pointer = 2046;
        for (Entry p : packets()) {
            if (p.bytes()[1] % 2 == channel && zone.size() < 22) {
                int from = emitted.getOrDefault(p.number(), 0);
                if (from == 0 && pointer > 22) {
                    pointer = zone.size();
                } else if (pointer == 2046) {
                    pointer = 2047;
                }
                int end = Math.min(p.bytes().length, from + 22 - zone.size());
                for (int k = from; k < end; k++) {
                    zone.add(p.bytes()[k]);
                }
                emitted.put(p.number(), end);
                if (end == p.bytes().length) {
                    done.add(p.number());
                }
            }
        }
        while (zone.size() < 22) {
            zone.add(85);
        }
        int number = counts[channel]++;
        int[] head = {83, 64 + channel, number >> 16, number >> 8 & 255, number & 255, 0, pointer >> 8, pointer & 255};
        int[] body = Lander.join(head, zone.stream().mapToInt(Integer::intValue).toArray());
        int check = EarthTest.checkOf(body);
        sent = Lander.join(body, Lander.row(check >> 8, check & 255));
        try {
            done.forEach(d -> enter(new Entry(d, null, null)));
        } catch (PowerGone e) {
            out = true;
        }
        return number;
    }
}
