import java.util.Arrays;

/** Makes rows of bytes as a lander sends them, and hands them to an orbiter. */
final class Lander {
    static final int SEQUENCED = 0;
    static final int EXPEDITED = 32;
    static final int DIRECTIVE = 16;
    static final int PACKETS = 0;
    static final int SEGMENT = 4;
    static final int FIRST = 64;
    static final int MIDDLE = 0;
    static final int LAST = 128;
    static final int WHOLE = 192;

    private Lander() {
    }

    /** Bytes from 6 on are told apart by the APID and their place. */
    static int[] packet(int apid, int length) {
        int[] bytes = new int[length];
        for (int k = 0; k < length; k++) {
            bytes[k] = (apid * 7 + k * 3 + 1) & 255;
        }
        bytes[0] = 8 + (apid >> 8);
        bytes[1] = apid & 255;
        bytes[4] = (length - 7) >> 8;
        bytes[5] = (length - 7) & 255;
        return bytes;
    }

    static int[] join(int[]... rows) {
        int[] all = new int[0];
        for (int[] row : rows) {
            int from = all.length;
            all = Arrays.copyOf(all, from + row.length);
            System.arraycopy(row, 0, all, from, row.length);
        }
        return all;
    }

    static int[] row(int... bytes) {
        return bytes;
    }

    static int[] part(int[] bytes, int from, int end) {
        return Arrays.copyOfRange(bytes, from, end);
    }

    /** A frame with mark and check; bits: the quality, kind and form of byte 0. */
    static int[] frameOf(int spacecraft, int bits, int channel, int number, int... data) {
        int length = data.length + 5;
        int[] head = {
            128 | bits | spacecraft >> 8, spacecraft & 255,
            channel << 7 | (length - 1) >> 8, (length - 1) & 255, number
        };
        return sealed(join(head, data));
    }

    static int[] frame(int bits, int channel, int number, int... data) {
        return frameOf(77, bits, channel, number, data);
    }

    /** A mark before the bytes of a frame, and their check behind them. */
    static int[] sealed(int... frame) {
        return join(row(250, 243, 32), frame, checkOf(frame));
    }

    /** Divides by the pattern with 32 zero bits behind: another way than the orbiter's. */
    static int[] checkOf(int... frame) {
        int[] bits = new int[frame.length * 8 + 32];
        for (int k = 0; k < frame.length * 8; k++) {
            bits[k] = frame[k / 8] >> (7 - k % 8) & 1;
        }
        long pattern = (1L << 32) + 10487813L;
        for (int k = 0; k < frame.length * 8; k++) {
            if (bits[k] == 1) {
                for (int j = 0; j <= 32; j++) {
                    bits[k + j] ^= (int) (pattern >> (32 - j) & 1);
                }
            }
        }
        int[] check = new int[4];
        for (int k = 0; k < 32; k++) {
            check[k / 8] |= bits[frame.length * 8 + k] << (7 - k % 8);
        }
        return check;
    }

    static int[] hail(int channel) {
        return frame(DIRECTIVE, channel, 0, 1, 0);
    }

    static int[] end(int channel) {
        return frame(DIRECTIVE, channel, 0, 2, 0);
    }

    static int[] set(int channel, int v) {
        return frame(DIRECTIVE, channel, 0, 3, v);
    }

    static int[] sequenced(int number, int... data) {
        return frame(SEQUENCED, 0, number, data);
    }

    static int[] expedited(int... data) {
        return frame(EXPEDITED, 0, 0, data);
    }

    static int[] segment(int quality, int number, int header, int... part) {
        return frame(quality | SEGMENT, 0, number, join(row(header), part));
    }

    /** Hands bytes over, four a call, as far as power lasts: how many frames were taken. */
    static int give(Craft orbiter, int... bytes) {
        int taken = 0;
        try {
            for (int from = 0; from < bytes.length; from += 4) {
                int n = Math.min(4, bytes.length - from);
                taken += orbiter.receive(wordOf(part(bytes, from, from + n)), n);
            }
        } catch (UnsupportedOperationException e) {
            // It is out: the rest is lost.
        }
        return taken;
    }

    static int wordOf(int... bytes) {
        int word = 0;
        for (int b : bytes) {
            word = word << 8 | b;
        }
        return word;
    }

    static int giveOneByOne(Craft orbiter, int... bytes) {
        int taken = 0;
        for (int b : bytes) {
            taken += orbiter.receive(b, 1);
        }
        return taken;
    }

    /** Packets of 7 bytes, one behind the other. */
    static int[] sevens(int apid, int count) {
        int[] all = new int[0];
        for (int k = 0; k < count; k++) {
            all = join(all, packet(apid, 7));
        }
        return all;
    }

    /** Packets of 7 bytes, of one block each: expedited, eight to a frame, for that takes few calls. */
    static void fill(Craft orbiter, int apid, int count) {
        for (int left = count; left > 0; left -= 8) {
            give(orbiter, expedited(sevens(apid, Math.min(8, left))));
        }
    }

    /** A packet of up to 60 bytes by two expedited segments of stream 3. */
    static void giveInTwo(Craft orbiter, int... packet) {
        int half = packet.length / 2;
        give(orbiter, segment(EXPEDITED, 0, FIRST | 3, part(packet, 0, half)));
        give(orbiter, segment(EXPEDITED, 0, LAST | 3, part(packet, half, packet.length)));
    }

    /** An orbiter whose session is on, on channel 0. */
    static Craft hailed() {
        Craft orbiter = new Craft();
        give(orbiter, hail(0));
        return orbiter;
    }

    /** An orbiter that is out, with a packet of APID 2 in the store and a frame sent. */
    static Craft outOfPower() {
        Craft orbiter = hailed();
        fill(orbiter, 2, 1);
        orbiter.send(1);
        orbiter.fail(1);
        fill(orbiter, 4, 1);
        Due.isTrue("it is out", orbiter.out());
        return orbiter;
    }
}
