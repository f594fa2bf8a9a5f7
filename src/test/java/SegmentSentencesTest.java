/** Terms: packets put together from segments. */
public final class SegmentSentencesTest {
    private static final int[] SIXTY = Lander.packet(300, 60);

    public static void main(String[] args) {
        Sentence.in("Terms");
        Sentence.says("SEGMENT: the first data byte: bits 7, 6: 1 FIRST, 0 MIDDLE, 2 LAST, 3 WHOLE",
            SegmentSentencesTest::bits7And6);
        Sentence.says("bits 5 .. 0 the STREAM, 0 .. 3 (others count for nothing)", SegmentSentencesTest::streams0To3);
        Sentence.says("the rest is PART of a packet", SegmentSentencesTest::theRestIsPart);
        Sentence.says("FIRST begins a stream's part anew", SegmentSentencesTest::firstBeginsAnew);
        Sentence.says("MIDDLE and LAST go on (if one was begun", SegmentSentencesTest::ifOneWasBegun);
        Sentence.says("and 60 bytes are not passed: else the stream is forgotten, and they count for nothing)",
            SegmentSentencesTest::sixtyBytesAreNotPassed);
        Sentence.says("WHOLE is both first and last", SegmentSentencesTest::wholeIsBoth);
        Sentence.says("Behind a last one the part is a packet, if it is one", SegmentSentencesTest::aPacketIfItIsOne);
        Sentence.says("and the stream is forgotten.", SegmentSentencesTest::forgottenBehindALastOne);
        Sentence.says("Of a sequenced segment that is refused for room the stream is as it was before.",
            SegmentSentencesTest::refusedForRoom);
        Sentence.says("(Without any data it counts for nothing", SegmentSentencesTest::withoutAnyData);
        Sentence.says("so do data that are no packets: V goes on all the same.)", SegmentSentencesTest::noPackets);
        Due.end();
    }

    private static void give(Craft x, int number, int header, int... part) {
        Lander.give(x, Lander.segment(Lander.SEQUENCED, number, header, part));
    }

    private static void expedite(Craft x, int header, int... part) {
        Lander.give(x, Lander.segment(Lander.EXPEDITED, 0, header, part));
    }

    private static int[] sixty(int from, int end) {
        return Lander.part(SIXTY, from, end);
    }

    private static void bits7And6() {
        Craft x = Lander.hailed();
        give(x, 0, 1 << 6, sixty(0, 20));
        give(x, 1, 0, sixty(20, 40));
        Due.equal("behind FIRST and MIDDLE", x.store(0), 0);
        give(x, 2, 2 << 6, sixty(40, 60));
        Due.equal("behind LAST", x.store(0), 1);
        for (int k = 0; k < 60; k++) {
            Due.equal("byte " + k, x.content(0, k), SIXTY[k]);
        }
        give(x, 3, 3 << 6, Lander.packet(9, 7));
        Due.equal("behind WHOLE", x.packet(1, 2), 9);
    }

    private static void streams0To3() {
        for (int stream = 0; stream < 64; stream++) {
            Craft x = Lander.hailed();
            give(x, 0, Lander.WHOLE | stream, Lander.packet(2, 7));
            Due.equal("a whole one of stream " + stream, x.store(0), stream < 4 ? 1 : 0);
            give(x, 1, Lander.FIRST | stream, sixty(0, 30));
            give(x, 2, Lander.LAST | stream, sixty(30, 60));
            Due.equal("a packet of stream " + stream, x.store(0), stream < 4 ? 2 : 0);
            Due.equal("V goes on", x.report(), 0x8003);
        }
        for (int other = 4; other < 64; other++) {
            Craft x = Lander.hailed();
            give(x, 0, Lander.FIRST | other % 4, sixty(0, 30));
            give(x, 1, Lander.FIRST | other, sixty(0, 9));
            give(x, 2, Lander.LAST | other, 1);
            give(x, 3, Lander.LAST | other % 4, sixty(30, 60));
            Due.equal("stream " + other % 4 + " in spite of " + other, x.store(0), 1);
        }
        Craft x = Lander.hailed();
        for (int stream = 0; stream < 4; stream++) {
            give(x, stream, Lander.FIRST | stream, Lander.part(Lander.packet(40 + stream, 20), 0, 8 + stream));
        }
        for (int stream = 0; stream < 4; stream++) {
            give(x, 4 + stream, Lander.LAST | stream, Lander.part(Lander.packet(40 + stream, 20), 8 + stream, 20));
            Due.equal("the streams are apart, " + stream, x.packet(stream, 2), 40 + stream);
        }
    }

    private static void theRestIsPart() {
        Craft x = Lander.hailed();
        give(x, 0, Lander.FIRST, sixty(0, 58));
        give(x, 1, Lander.MIDDLE);
        give(x, 2, Lander.MIDDLE, sixty(58, 59));
        give(x, 3, Lander.LAST, sixty(59, 60));
        Due.equal("parts of 58, 0, 1 and 1", x.packet(0, 1), 60);
        give(x, 4, Lander.FIRST);
        give(x, 5, Lander.MIDDLE, sixty(0, 57));
        give(x, 6, Lander.MIDDLE, sixty(57, 60));
        give(x, 7, Lander.LAST);
        Due.equal("parts of 0, 57, 3 and 0", x.packet(1, 1), 60);
        give(x, 8, Lander.WHOLE, Lander.packet(2, 58));
        Due.equal("a whole one of the greatest length", x.packet(2, 1), 58);
        give(x, 9, Lander.WHOLE, Lander.packet(2, 57));
        Due.equal("one less", x.packet(3, 1), 57);
        give(x, 10, Lander.WHOLE, Lander.packet(2, 59));
        Due.equal("one more: its frame is too long", x.report(), 0x800A);
        give(x, 10, Lander.WHOLE);
        Due.equal("a whole one without a part is no packet", x.store(0), 4);
        Due.equal("it counts for V", x.report(), 0x800B);
    }

    private static void firstBeginsAnew() {
        for (int before = 0; before <= 58; before += 29) {
            Craft x = Lander.hailed();
            give(x, 0, Lander.FIRST, sixty(0, before));
            give(x, 1, Lander.MIDDLE, 1, 2);
            give(x, 2, Lander.FIRST, Lander.part(Lander.packet(4, 12), 0, 6));
            give(x, 3, Lander.LAST, Lander.part(Lander.packet(4, 12), 6, 12));
            Due.equal("the later first, behind " + before, x.store(0), 1);
            Due.equal("its length", x.packet(0, 1), 12);
        }
    }

    private static void ifOneWasBegun() {
        Craft x = Lander.hailed();
        give(x, 0, Lander.LAST, Lander.packet(2, 7));
        Due.equal("a last one alone", x.store(0), 0);
        give(x, 1, Lander.MIDDLE, Lander.packet(2, 7));
        give(x, 2, Lander.LAST);
        Due.equal("a middle one begins nothing", x.store(0), 0);
        give(x, 3, Lander.FIRST | 1, Lander.packet(2, 7));
        give(x, 4, Lander.LAST | 2);
        Due.equal("another stream was begun", x.store(0), 0);
        Due.equal("V goes on", x.report(), 0x8005);
        give(x, 5, Lander.LAST | 1);
        Due.equal("the one that was begun", x.store(0), 1);
        give(x, 6, Lander.FIRST);
        give(x, 7, Lander.LAST, Lander.packet(2, 7));
        Due.equal("begun with an empty part", x.store(0), 2);
    }

    private static void sixtyBytesAreNotPassed() {
        for (int length = 59; length <= 62; length++) {
            int want = length <= 60 ? 1 : 0;
            int[] row = Lander.packet(300, length);
            Craft x = Lander.hailed();
            give(x, 0, Lander.FIRST, Lander.part(row, 0, 58));
            give(x, 1, Lander.LAST, Lander.part(row, 58, length));
            Due.equal("a last one up to " + length, x.store(0), want);
            Due.equal("V goes on", x.report(), 0x8002);
            Craft y = Lander.hailed();
            give(y, 0, Lander.FIRST, Lander.part(row, 0, 58));
            give(y, 1, Lander.MIDDLE, Lander.part(row, 58, length));
            give(y, 2, Lander.LAST);
            Due.equal("a middle one up to " + length, y.store(0), want);
        }
        for (int header : new int[] {Lander.MIDDLE, Lander.LAST}) {
            Craft x = Lander.hailed();
            give(x, 0, Lander.FIRST, sixty(0, 58));
            give(x, 1, header, 1, 2, 3);
            give(x, 2, Lander.LAST, sixty(58, 60));
            Due.equal("forgotten behind one that passed", x.store(0), 0);
            Due.equal("V goes on", x.report(), 0x8003);
        }
        Craft x = Lander.hailed();
        give(x, 0, Lander.FIRST, sixty(0, 58));
        give(x, 1, Lander.MIDDLE, sixty(0, 58));
        give(x, 2, Lander.LAST, Lander.packet(2, 7));
        Due.equal("forgotten behind one that passed by far", x.store(0), 0);
    }

    private static void wholeIsBoth() {
        Craft x = Lander.hailed();
        give(x, 0, Lander.FIRST, sixty(0, 30));
        give(x, 1, Lander.WHOLE, Lander.packet(4, 20));
        Due.equal("first: begun anew", x.packet(0, 1), 20);
        give(x, 2, Lander.LAST, sixty(30, 60));
        Due.equal("last: forgotten", x.store(0), 1);
        give(x, 3, Lander.WHOLE, sixty(0, 30));
        give(x, 4, Lander.LAST, sixty(30, 60));
        Due.equal("forgotten behind one that is no packet, too", x.store(0), 1);
    }

    private static void aPacketIfItIsOne() {
        int[] packet = Lander.packet(4, 20);
        int[][] none = {
            {}, {8}, Lander.part(packet, 0, 6), Lander.part(packet, 0, 19), Lander.join(packet, Lander.row(0)),
            Lander.join(Lander.packet(4, 7), Lander.packet(4, 7))
        };
        for (int k = 0; k < none.length; k++) {
            Craft x = Lander.hailed();
            give(x, 0, Lander.FIRST, none[k]);
            give(x, 1, Lander.LAST);
            give(x, 2, Lander.WHOLE, none[k]);
            Due.equal("none " + k, x.store(3), 0);
            Due.equal("V goes on", x.report(), 0x8003);
            give(x, 3, Lander.FIRST, packet);
            give(x, 4, Lander.LAST);
            Due.equal("one behind it", x.store(0), 1);
        }
    }

    private static void forgottenBehindALastOne() {
        Craft x = Lander.hailed();
        give(x, 0, Lander.FIRST, Lander.part(Lander.packet(4, 20), 0, 10));
        give(x, 1, Lander.LAST, Lander.part(Lander.packet(4, 20), 10, 20));
        give(x, 2, Lander.LAST);
        Due.equal("not twice", x.store(0), 1);
        give(x, 3, Lander.MIDDLE, Lander.packet(2, 7));
        give(x, 4, Lander.LAST);
        Due.equal("nothing is begun", x.store(0), 1);
        give(x, 5, Lander.FIRST, Lander.part(Lander.packet(4, 20), 0, 9));
        give(x, 6, Lander.LAST, Lander.part(Lander.packet(4, 20), 10, 20));
        give(x, 7, Lander.LAST, 0);
        Due.equal("no packet, and forgotten", x.store(0), 1);
        Craft y = Lander.hailed();
        Lander.fill(y, 2, 24);
        expedite(y, Lander.FIRST, Lander.packet(4, 20));
        expedite(y, Lander.LAST);
        y.send(0);
        expedite(y, Lander.LAST);
        Due.equal("an expedited one without room is forgotten", y.store(0), 21);
    }

    private static void refusedForRoom() {
        Craft x = Lander.hailed();
        Lander.fill(x, 2, 22);
        give(x, 0, Lander.FIRST, sixty(0, 30));
        give(x, 1, Lander.LAST, sixty(30, 60));
        Due.equal("a last one is refused", x.report(), 0xA301);
        give(x, 1, Lander.LAST, sixty(30, 60));
        Due.equal("and refused", x.report(), 0xA301);
        give(x, 1, Lander.WHOLE, Lander.packet(4, 41));
        Due.equal("a whole one is refused", x.report(), 0xA301);
        Due.equal("nothing written", x.store(3), 44);
        give(x, 1, Lander.MIDDLE, sixty(30, 31));
        Due.equal("one that needs no room", x.report(), 0x8302);
        give(x, 2, Lander.LAST, sixty(31, 60));
        Due.equal("the last one again", x.report(), 0xA302);
        x.send(0);
        give(x, 2, Lander.LAST, sixty(31, 60));
        Due.equal("there is room", x.report(), 0x8303);
        for (int k = 0; k < 60; k++) {
            Due.equal("byte " + k, x.content(19, k), SIXTY[k]);
        }
        Craft y = Lander.hailed();
        Lander.fill(y, 2, 24);
        give(y, 0, Lander.WHOLE, Lander.packet(4, 20));
        y.send(0);
        give(y, 0, Lander.LAST, Lander.packet(4, 20));
        Due.equal("nothing was begun before the one refused", y.store(0), 21);
    }

    private static void withoutAnyData() {
        Craft x = Lander.hailed();
        give(x, 0, Lander.FIRST, sixty(0, 30));
        Lander.give(x, Lander.frame(Lander.SEGMENT, 0, 1));
        Lander.give(x, Lander.frame(Lander.SEGMENT | Lander.EXPEDITED, 0, 1));
        Due.equal("it counts for V and for the count alone", x.report(), 0x8102);
        Due.equal("nothing stored", x.store(3), 0);
        give(x, 2, Lander.LAST, sixty(30, 60));
        Due.equal("stream 0 is as it was", x.store(0), 1);
    }

    private static void noPackets() {
        Craft x = Lander.hailed();
        Lander.give(x, Lander.sequenced(0, 1, 2, 3));
        Due.equal("packets", x.report(), 0x8001);
        give(x, 1, Lander.WHOLE, 1, 2, 3);
        Due.equal("a segment", x.report(), 0x8002);
        Lander.give(x, Lander.frame(2 << 2, 0, 2, Lander.packet(2, 7)));
        Lander.give(x, Lander.frame(3 << 2, 0, 3, Lander.packet(2, 7)));
        Due.equal("forms 2 and 3", x.report(), 0x8004);
        Due.equal("nothing written", x.store(3), 0);
        Lander.fill(x, 2, 24);
        Lander.give(x, Lander.sequenced(5, 1, 2, 3));
        Lander.give(x, Lander.sequenced(4, 1, 2, 3));
        Due.equal("V goes on while there is no room, and the flag is 0", x.report(), 0x8305);
        give(x, 5, Lander.WHOLE | 4, Lander.packet(2, 7));
        Due.equal("so it does for another stream", x.report(), 0x8306);
    }
}
