/** Terms: the link to Earth. */
public final class EarthLinkSentencesTest {
    public static void main(String[] args) {
        Sentence.in("Terms");
        Sentence.says("two virtual channels, 0 for packets with even APIDs, 1 for odd ones",
            EarthLinkSentencesTest::evenAndOdd);
        Sentence.says("A FRAME has 32 bytes", EarthLinkSentencesTest::has32Bytes);
        Sentence.says("0, 1: 16384 + 64 * 77 + the channel", EarthLinkSentencesTest::bytes0And1);
        Sentence.says("2 .. 4: the channel's count of frames (24 bits), 5: 0", EarthLinkSentencesTest::countOfFrames);
        Sentence.says("6, 7: the POINTER: where in the ZONE the first packet begins that begins there",
            EarthLinkSentencesTest::whereTheFirstBegins);
        Sentence.says("2047 if none does but a packet goes on", EarthLinkSentencesTest::noneBegins);
        Sentence.says("2046 if there is none at all", EarthLinkSentencesTest::noneAtAll);
        Sentence.says("8 .. 29 the ZONE: the packets of the channel, in the order of their numbers, one behind the other",
            EarthLinkSentencesTest::inTheOrderOfTheirNumbers);
        Sentence.says("going on from frame to frame", EarthLinkSentencesTest::fromFrameToFrame);
        Sentence.says("where there are no more, bytes 85", EarthLinkSentencesTest::bytes85);
        Sentence.says("30, 31: the check of 0 .. 29: 16 bits, at first 65535, each bit taken as above, with 4129",
            EarthLinkSentencesTest::checkOf16Bits);
        Sentence.says("A packet is dropped from the store behind the frame that has its last byte",
            EarthLinkSentencesTest::droppedBehindItsLastByte);
        Sentence.says("(those of one frame in their order)", EarthLinkSentencesTest::droppedInTheirOrder);
        Due.end();
    }

    private static int pointer(Craft x) {
        return x.sent(6) * 256 + x.sent(7);
    }

    private static void zoneIs(String what, Craft x, int... want) {
        for (int k = 0; k < 22; k++) {
            Due.equal(what + ": place " + k + " of the zone", x.sent(8 + k), k < want.length ? want[k] : 85);
        }
    }

    /** An orbiter with these packets, each by two expedited segments. */
    private static Craft with(int[]... packets) {
        Craft x = Lander.hailed();
        for (int[] packet : packets) {
            Lander.giveInTwo(x, packet);
        }
        Due.equal("packets", x.store(0), packets.length);
        return x;
    }

    private static void evenAndOdd() {
        for (int apid : new int[] {0, 1, 2, 255, 256, 257, 2046, 2047}) {
            Craft x = with(Lander.packet(apid, 7));
            x.send(1 - apid % 2);
            Due.equal("APID " + apid + ", the other channel", pointer(x), 2046);
            Due.equal("it is still there", x.store(0), 1);
            x.send(apid % 2);
            Due.equal("APID " + apid + ", its channel", pointer(x), 0);
            zoneIs("APID " + apid, x, Lander.packet(apid, 7));
            Due.equal("it is dropped", x.store(0), 0);
        }
    }

    private static void has32Bytes() {
        Craft x = with(Lander.packet(2, 60));
        x.send(0);
        for (int i = 0; i < 32; i++) {
            Due.isTrue("byte " + i, x.sent(i) >= 0 && x.sent(i) <= 255);
        }
        Due.badIndex("none before", () -> x.sent(-1));
        Due.badIndex("none behind", () -> x.sent(32));
    }

    private static void bytes0And1() {
        for (int channel = 0; channel < 2; channel++) {
            Craft x = new Craft();
            x.send(channel);
            Due.equal("channel " + channel, x.sent(0) * 256 + x.sent(1), 16384 + 64 * 77 + channel);
        }
    }

    private static void countOfFrames() {
        Craft x = new Craft();
        for (int count = 0; count <= 257; count++) {
            Due.equal("the count", x.send(1), count);
            if (count == 0 || count >= 254) {
                int told = x.sent(2) * 65536 + x.sent(3) * 256 + x.sent(4);
                Due.equal("the count as it is told", told, count);
                Due.equal("byte 5", x.sent(5), 0);
            }
        }
        Due.equal("the other channel has its own", x.send(0), 0);
        Due.equal("byte 3 then", x.sent(3), 0);
        Due.equal("byte 4 then", x.sent(4), 0);
    }

    private static void whereTheFirstBegins() {
        for (int length : new int[] {23, 24, 30, 42, 43, 44}) {
            Craft x = with(Lander.packet(2, length), Lander.packet(4, 7), Lander.packet(6, 7));
            x.send(0);
            Due.equal("the first frame", pointer(x), 0);
            x.send(0);
            Due.equal("the second, behind one of " + length, pointer(x), length == 44 ? 2047 : length - 22);
        }
        Craft x = with(Lander.packet(2, 22), Lander.packet(4, 7), Lander.packet(6, 7));
        x.send(0);
        x.send(0);
        Due.equal("one that ended with the zone does not go on", pointer(x), 0);
        Craft y = with(Lander.packet(2, 43), Lander.packet(4, 7));
        y.send(0);
        y.send(0);
        Due.equal("one that begins with the zone's last byte", pointer(y), 21);
        y.send(0);
        Due.equal("goes on then", pointer(y), 2047);
        Due.equal("with its second byte", y.sent(8), 4);
    }

    private static void noneBegins() {
        Craft x = with(Lander.packet(2, 60));
        int[] want = {0, 2047, 2047};
        for (int k = 0; k < 3; k++) {
            x.send(0);
            Due.equal("frame " + k + " of one packet", pointer(x), want[k]);
        }
        Craft y = with(Lander.packet(2, 23));
        y.send(0);
        y.send(0);
        Due.equal("one byte goes on, then fill", pointer(y), 2047);
        Craft z = with(Lander.packet(2, 44), Lander.packet(4, 7));
        z.send(0);
        z.send(0);
        Due.equal("it ends with the zone: the next does not begin there", pointer(z), 2047);
        z.send(0);
        Due.equal("but in the next", pointer(z), 0);
    }

    private static void noneAtAll() {
        Craft x = new Craft();
        x.send(0);
        Due.equal("an empty store", pointer(x), 2046);
        Craft other = with(Lander.packet(3, 60));
        other.send(0);
        Due.equal("packets of the other channel", pointer(other), 2046);
        Craft y = with(Lander.packet(2, 22));
        y.send(0);
        Due.equal("a packet", pointer(y), 0);
        y.send(0);
        Due.equal("no more", pointer(y), 2046);
        zoneIs("no more", y);
    }

    private static void inTheOrderOfTheirNumbers() {
        Craft x = Lander.hailed();
        Lander.give(x, Lander.expedited(Lander.join(
            Lander.packet(2, 7), Lander.packet(3, 7), Lander.packet(5, 7), Lander.packet(4, 7))));
        x.send(0);
        zoneIs("even ones", x, Lander.join(Lander.packet(2, 7), Lander.packet(4, 7)));
        // The blocks 0 and 3 are free again: by its block the later one would be before the others.
        Lander.fill(x, 9, 1);
        Due.equal("its block", x.packet(2, 3), 0);
        x.send(1);
        zoneIs("odd ones", x,
            Lander.join(Lander.packet(3, 7), Lander.packet(5, 7), Lander.packet(9, 7), Lander.row(85)));
        Due.equal("all are sent", x.store(0), 0);
    }

    private static void fromFrameToFrame() {
        int[] a = Lander.packet(2, 60);
        int[] b = Lander.packet(4, 60);
        int[] c = Lander.packet(6, 12);
        int[] all = Lander.join(a, b, c);
        Craft x = with(a, b, c, Lander.packet(3, 60));
        for (int from = 0; from < all.length; from += 22) {
            x.send(0);
            zoneIs("from " + from, x, Lander.part(all, from, from + 22));
            if (from == 22) {
                x.send(1);
                x.send(1);
            }
        }
        Due.equal("the other channel goes on for itself", x.packet(0, 4), 44);
    }

    private static void bytes85() {
        Craft empty = new Craft();
        empty.send(0);
        zoneIs("of an empty store", empty);
        for (int length : new int[] {7, 20, 21, 22, 23}) {
            int[] packet = Lander.packet(2, length);
            Craft x = with(packet);
            x.send(0);
            zoneIs("one of " + length, x, Lander.part(packet, 0, Math.min(22, length)));
            Due.equal("is it dropped", x.store(0), length <= 22 ? 0 : 1);
        }
        Craft x = with(Lander.packet(2, 60));
        x.send(0);
        x.send(0);
        x.send(0);
        zoneIs("behind the end of one", x, Lander.part(Lander.packet(2, 60), 44, 60));
    }

    private static void checkOf16Bits() {
        // Counted once from the words alone, outside of these tests, so that no helper vouches for itself.
        Craft x = new Craft();
        x.send(0);
        Due.equal("an empty frame: 30", x.sent(30), 51);
        Due.equal("an empty frame: 31", x.sent(31), 14);
        Craft y = with(Lander.packet(2047, 60));
        for (int k = 0; k < 3; k++) {
            y.send(1);
            int[] frame = new int[30];
            for (int i = 0; i < 30; i++) {
                frame[i] = y.sent(i);
            }
            Due.equal("frame " + k, y.sent(30) * 256 + y.sent(31), EarthTest.checkOf(frame));
        }
    }

    private static void droppedBehindItsLastByte() {
        for (int length : new int[] {21, 22, 23, 43, 44, 45, 60}) {
            Craft x = with(Lander.packet(2, length));
            int frames = (length + 21) / 22;
            for (int k = 1; k <= frames; k++) {
                Due.equal("there before frame " + k, x.store(0), 1);
                x.send(0);
                if (k < frames) {
                    Due.equal("emitted by " + k + " frames", x.packet(0, 4), 22 * k);
                }
            }
            Due.equal("dropped behind " + frames, x.store(0), 0);
            Due.equal("its blocks are free", x.store(1), 24);
            Due.equal("two entries", x.store(2), 2);
        }
    }

    private static void droppedInTheirOrder() {
        for (int writes = 1; writes <= 3; writes++) {
            Craft x = Lander.hailed();
            Lander.give(x, Lander.expedited(Lander.join(
                Lander.packet(2, 7), Lander.packet(3, 7), Lander.packet(4, 7), Lander.packet(6, 7))));
            x.fail(writes);
            x.send(0);
            int[][] left = {{1, 2, 3}, {1, 3}, {1}};
            Due.equal("left behind " + writes, x.store(0), 4 - writes);
            for (int i = 0; i < left[writes - 1].length; i++) {
                Due.equal("number of " + i + " behind " + writes, x.packet(i, 0), left[writes - 1][i]);
            }
        }
    }
}
