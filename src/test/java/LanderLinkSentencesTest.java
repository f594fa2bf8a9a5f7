import java.util.function.Predicate;

/** Terms: the link from the lander, where frames are found in a row of bytes. */
public final class LanderLinkSentencesTest {
    public static void main(String[] args) {
        Sentence.in("Terms");
        Sentence.says("A MARK is the bytes 250, 243, 32.", LanderLinkSentencesTest::aMark);
        Sentence.says("Behind it a FRAME of 5 to 64 bytes is looked for", LanderLinkSentencesTest::aFrameOf5To64);
        Sentence.says("and behind that 4 bytes of its CHECK", LanderLinkSentencesTest::fourBytesOfCheck);
        Sentence.says("FRAME: byte 0: bits 7, 6 are 2", LanderLinkSentencesTest::bits7And6Are2);
        Sentence.says("bit 5 QUALITY (0 SEQUENCED, 1 EXPEDITED)", LanderLinkSentencesTest::bit5Quality);
        Sentence.says("bit 4 KIND (0 data, 1 a directive)", LanderLinkSentencesTest::bit4Kind);
        Sentence.says("bits 3, 2 FORM (0 PACKETS, 1 a SEGMENT, 2 and 3 as without data)",
            LanderLinkSentencesTest::bits3And2Form);
        Sentence.says("bits 1, 0 and byte 1 the SPACECRAFT's number (77 here)", LanderLinkSentencesTest::spacecraft77);
        Sentence.says("byte 2: bit 7 the CHANNEL, bits 6 .. 3 any", LanderLinkSentencesTest::channelAndAnyBits);
        Sentence.says("bits 2 .. 0 and byte 3 the frame's length less 1", LanderLinkSentencesTest::lengthLess1);
        Sentence.says("byte 4 its NUMBER; the rest is DATA.", LanderLinkSentencesTest::numberAndData);
        Sentence.says("CHECK: a row of 32 bits, at first 0", LanderLinkSentencesTest::checkOf32Bits);
        Sentence.says("for each bit of the frame, the highest of each byte first: the row's highest bit, exclusive-ored with that one, is taken",
            LanderLinkSentencesTest::forEachBitTheHighestFirst);
        Sentence.says("the row is shifted up by one, and if the one taken is 1 exclusive-ored with 10487813", LanderLinkSentencesTest::everyBitIsChecked);
        Sentence.says("Bytes are looked through from the first on", LanderLinkSentencesTest::fromTheFirstOn);
        Sentence.says("where a mark stands and all of the frame and check are there, and it is as said (bits 7, 6 are 2, length, check)",
            LanderLinkSentencesTest::allIsThereAndAsSaid);
        Sentence.says("the frame is TAKEN, and one goes on behind its check",
            LanderLinkSentencesTest::goesOnBehindTheCheck);
        Sentence.says("where a mark stands, but something is not as said, one goes on with the byte behind the mark's first one",
            LanderLinkSentencesTest::goesOnBehindTheMarksFirstByte);
        Sentence.says("as soon as that is known (bits 7, 6, then the length, then the check)",
            LanderLinkSentencesTest::asSoonAsThatIsKnown);
        Sentence.says("where no mark stands likewise", LanderLinkSentencesTest::whereNoMarkStands);
        Sentence.says("As long as bytes are missing for that, they are waited for", LanderLinkSentencesTest::bytesWait);
        Sentence.says("(at a mark's beginning, too)", LanderLinkSentencesTest::aMarksBeginningWaits);
        Due.end();
    }

    private static int takenOf(int... bytes) {
        return Lander.give(new Craft(), bytes);
    }

    private static void aMark() {
        int[] hail = Lander.hail(0);
        Due.equal("taken with its mark", takenOf(hail), 1);
        for (int k = 0; k < 3; k++) {
            for (int value = 0; value < 256; value++) {
                int[] row = hail.clone();
                row[k] = value;
                Due.equal("taken with " + value + " at " + k, takenOf(row), value == hail[k] ? 1 : 0);
            }
        }
        Due.equal("without a mark", takenOf(Lander.part(hail, 3, hail.length)), 0);
    }

    /** A frame of any length, with its check: of less than 5 bytes the last ones are missing. */
    private static int[] frameOf(int length) {
        int[] frame = new int[Math.max(4, length)];
        frame[0] = 128;
        frame[1] = 77;
        frame[2] = (length - 1) >> 8;
        frame[3] = (length - 1) & 255;
        return Lander.sealed(Lander.part(frame, 0, length));
    }

    private static void aFrameOf5To64() {
        for (int length : new int[] {4, 5, 6, 63, 64, 65, 66, 128, 255, 256}) {
            int want = length >= 5 && length <= 64 ? 1 : 0;
            Due.equal("taken of a frame of " + length, takenOf(frameOf(length)), want);
        }
        for (int told = 1; told < 5; told++) {
            int[] row = Lander.sealed(128, 77, 0, told - 1, 0);
            Due.equal("taken of 5 bytes that tell " + told, takenOf(row), 0);
        }
    }

    private static void fourBytesOfCheck() {
        int[] frame = frameOf(5);
        Due.equal("bytes in all", frame.length, 3 + 5 + 4);
        for (int missing = 1; missing <= 4; missing++) {
            Due.equal(missing + " missing", takenOf(Lander.part(frame, 0, frame.length - missing)), 0);
        }
        for (int k = 8; k < 12; k++) {
            int[] more = frame.clone();
            more[k] = more[k] + 1 & 255;
            int[] less = frame.clone();
            less[k] = less[k] - 1 & 255;
            Due.equal("byte " + k + " one more", takenOf(more), 0);
            Due.equal("byte " + k + " one less", takenOf(less), 0);
        }
        int[] greatest = frameOf(64);
        Due.equal("a frame of 64, a byte missing", takenOf(Lander.part(greatest, 0, greatest.length - 1)), 0);
    }

    private static void bits7And6Are2() {
        for (int bits = 0; bits < 4; bits++) {
            int[] row = Lander.sealed(bits << 6 | 16, 77, 0, 6, 0, 1, 0);
            Due.equal("bits 7, 6 are " + bits, takenOf(row), bits == 2 ? 1 : 0);
        }
    }

    private static void bit5Quality() {
        Craft x = Lander.hailed();
        Lander.give(x, Lander.frame(0, 0, 0));
        Due.equal("0: V goes on", x.report(), 0x8001);
        Lander.give(x, Lander.frame(32, 0, 1));
        Due.equal("1: the count goes on", x.report(), 0x8101);
    }

    private static void bit4Kind() {
        Craft x = Lander.hailed();
        Lander.give(x, Lander.frame(0, 0, 0, 2, 0));
        Due.equal("0: data", x.report(), 0x8001);
        Lander.give(x, Lander.frame(16, 0, 1, 2, 0));
        Due.equal("1: a directive", x.report(), 0);
    }

    private static void bits3And2Form() {
        int[] packets = Lander.sevens(2, 3);
        int[] segment = Lander.join(Lander.row(Lander.WHOLE), Lander.packet(2, 7));
        for (int quality = 0; quality <= 32; quality += 32) {
            for (int form = 0; form < 4; form++) {
                Craft x = Lander.hailed();
                Lander.give(x, Lander.frame(quality | form << 2, 0, 0, packets));
                Due.equal("of packets, form " + form, x.store(0), form == 0 ? 3 : 0);
                Craft y = Lander.hailed();
                Lander.give(y, Lander.frame(quality | form << 2, 0, 0, segment));
                Due.equal("of a segment, form " + form, y.store(0), form == 1 ? 1 : 0);
                Due.equal("it counts, form " + form, y.report(), quality == 0 ? 0x8001 : 0x8100);
            }
        }
    }

    private static void spacecraft77() {
        for (int number = 0; number < 1024; number++) {
            Craft x = new Craft();
            Lander.give(x, Lander.frameOf(number, 16, 0, 0, 1, 0));
            Due.equal("hail for " + number, x.report(), number == 77 ? 0x8000 : 0);
        }
    }

    private static void channelAndAnyBits() {
        for (int any = 0; any < 16; any++) {
            for (int channel = 0; channel < 2; channel++) {
                Craft x = new Craft();
                int[] row = Lander.sealed(144, 77, channel << 7 | any << 3, 6, 0, 1, 0);
                Due.equal("taken, bits 6 .. 3 are " + any, Lander.give(x, row), 1);
                Due.equal("channel " + channel, x.report(), 0x8000 + 0x1000 * channel);
            }
        }
    }

    private static void lengthLess1() {
        int[] hail = Lander.hail(0);
        for (int told = 0; told < 256; told++) {
            int[] frame = Lander.part(hail, 3, 10);
            frame[3] = told;
            Due.equal("7 bytes that tell " + told, takenOf(Lander.sealed(frame)), told == 6 ? 1 : 0);
        }
        for (int high = 0; high < 8; high++) {
            int[] frame = Lander.part(hail, 3, 10);
            frame[2] = high;
            Due.equal("bits 2 .. 0 are " + high, takenOf(Lander.sealed(frame)), high == 0 ? 1 : 0);
        }
    }

    private static void numberAndData() {
        Craft x = Lander.hailed();
        Lander.give(x, Lander.set(0, 255));
        Lander.give(x, Lander.frame(0, 0, 255, Lander.packet(2, 59)));
        Due.equal("number 255", x.report(), 0x8000);
        Due.equal("59 bytes of data", x.packet(0, 1), 59);
        Due.equal("the first of them", x.content(0, 0), 8);
        Due.equal("the last of them", x.content(0, 58), Lander.packet(2, 59)[58]);
        Lander.give(x, Lander.frame(0, 0, 0));
        Due.equal("number 0, no data", x.report(), 0x8001);
    }

    private static void checkOf32Bits() {
        // Counted once from the words alone, outside of these tests, so that no helper vouches for itself.
        Craft x = new Craft();
        int[] hail = {250, 243, 32, 144, 77, 0, 6, 0, 1, 0, 151, 41, 30, 176};
        Due.equal("a hail", Lander.give(x, hail), 1);
        Due.equal("its report", x.report(), 0x8000);
        int[] end = {250, 243, 32, 144, 77, 128, 6, 255, 2, 255, 244, 182, 219, 108};
        Due.equal("an end", Lander.give(x, end), 1);
        Due.equal("its report", x.report(), 0);
    }

    private static void forEachBitTheHighestFirst() {
        for (int length = 5; length <= 64; length++) {
            int[] data = new int[length - 5];
            for (int k = 0; k < data.length; k++) {
                data[k] = 37 * k + length & 255;
            }
            Due.equal("a frame of " + length, takenOf(Lander.frame(32, 1, length, data)), 1);
        }
        for (int bit = 0; bit < 8; bit++) {
            int[] row = Lander.frame(0, 0, 1 << bit);
            Due.equal("with bit " + bit + " alone", takenOf(row), 1);
            int[] turned = row.clone();
            turned[7] = 1 << 7 - bit;
            Due.equal("with the byte's bits the other way round", takenOf(turned), 0);
        }
    }

    private static void everyBitIsChecked() {
        int[] good = Lander.sequenced(3, Lander.packet(77, 59));
        Due.equal("as it is", takenOf(good), 1);
        for (int k = 0; k < good.length; k++) {
            for (int bit = 0; bit < 8; bit++) {
                int[] bad = good.clone();
                bad[k] ^= 1 << bit;
                Due.equal("bit " + bit + " of byte " + k + " turned", takenOf(bad), 0);
            }
        }
    }

    private static void fromTheFirstOn() {
        // The first mark's frame is whole only with the second's beginning as its check: it is not as said.
        int[] row = Lander.join(Lander.part(frameOf(5), 0, 8), Lander.hail(1));
        Craft x = new Craft();
        Due.equal("the second", Lander.give(x, row), 1);
        Due.equal("hailed on channel 1", x.report(), 0x9000);
        Craft y = new Craft();
        Lander.give(y, Lander.join(Lander.hail(0), Lander.hail(1)));
        Due.equal("the later hail counts last", y.report(), 0x9000);
        Craft z = new Craft();
        int[] outer = Lander.frame(16, 0, 0, Lander.join(Lander.row(1, 0), Lander.hail(1)));
        Due.equal("of a frame in a frame the first counts", Lander.give(z, outer), 1);
        Due.equal("hailed on channel 0", z.report(), 0x8000);
    }

    private static void allIsThereAndAsSaid() {
        int[] frame = Lander.expedited(Lander.packet(2, 9));
        for (int cut = 0; cut <= frame.length; cut++) {
            Due.equal("the first " + cut + " bytes", takenOf(Lander.part(frame, 0, cut)), cut == frame.length ? 1 : 0);
        }
        for (int from = 1; from < frame.length; from++) {
            Due.equal("without the first " + from, takenOf(Lander.part(frame, from, frame.length)), 0);
        }
        int[] wrong = {3, 5, 6, frame.length - 1};
        for (int place : wrong) {
            int[] row = frame.clone();
            row[place] ^= place == 3 ? 64 : 1;
            Due.equal("byte " + place + " is not as said", takenOf(row), 0);
        }
    }

    private static void goesOnBehindTheCheck() {
        Due.equal("two of the least length", takenOf(Lander.join(frameOf(5), frameOf(5))), 2);
        Due.equal("two of the greatest length", takenOf(Lander.join(frameOf(64), frameOf(64))), 2);
        int[] outer = Lander.frame(0, 0, 0, Lander.join(frameOf(5), frameOf(5), frameOf(5), frameOf(5)));
        Due.equal("frames inside of one are not looked for", takenOf(Lander.join(outer, frameOf(5))), 2);
        // Its data end with a mark and a byte; with its check they would begin a frame of over 40 bytes.
        int[] tail = withCheck(c -> (c[1] & 7) == 0 && c[2] >= 40 && c[2] < 64, 250, 243, 32, 128);
        Due.same("nor one that begins in its data and would go on behind it",
            takenByEach(Lander.join(tail, Lander.hail(0))),
            "0".repeat(tail.length - 1) + "1" + "0".repeat(13) + "1");
        // Its check ends as a mark begins.
        int[] begun = withCheck(c -> c[3] == 250);
        Due.equal("nor one that begins in its check", takenOf(Lander.join(begun, Lander.part(Lander.hail(0), 1, 14))), 1);
    }

    /** A frame whose data end so, and whose check is as wanted. */
    private static int[] withCheck(Predicate<int[]> wanted, int... end) {
        for (int k = 0; k < 65536; k++) {
            int[] row = Lander.frame(0, 0, k / 256, Lander.join(Lander.row(k % 256, 0, 0, 0), end));
            if (wanted.test(Lander.part(row, row.length - 4, row.length))) {
                return row;
            }
        }
        throw new IllegalStateException("there is none");
    }

    private static void goesOnBehindTheMarksFirstByte() {
        int[] hail = Lander.hail(0);
        Due.equal("bits 7, 6: a mark in place of byte 0", takenOf(Lander.join(Lander.row(250, 243, 32), hail)), 1);
        int[] length = {250, 243, 32, 128};
        Due.equal("the length: a mark in place of byte 1", takenOf(Lander.join(length, hail)), 1);
        int[] tooLong = {250, 243, 32, 128, 77, 0, 64};
        Due.equal("the length: behind byte 3", takenOf(Lander.join(tooLong, hail)), 1);
        int[] check = {250, 243, 32, 128, 77, 0, 4};
        Due.equal("the check: a mark in place of byte 4", takenOf(Lander.join(check, hail)), 1);
        int[] late = {250, 243, 32, 128, 77, 0, 4, 0, 0, 0, 0};
        Due.equal("the check: a mark in place of its last byte", takenOf(Lander.join(late, hail)), 1);
        int[] bad = frameOf(64);
        bad[bad.length - 1] ^= 1;
        Due.equal("the check: behind it", takenOf(Lander.join(bad, hail)), 1);
    }

    /** How many frames each byte's call has taken, as a row of digits. */
    private static String takenByEach(int... bytes) {
        Craft x = new Craft();
        StringBuilder taken = new StringBuilder();
        for (int b : bytes) {
            taken.append(x.receive(b, 1));
        }
        return taken.toString();
    }

    private static void asSoonAsThatIsKnown() {
        int[] least = frameOf(5);
        String atItsLast = "000000000001";
        int[] bits = {250, 243, 32, 192};
        Due.same("bits 7, 6", takenByEach(Lander.join(bits, least)), "0000" + atItsLast);
        int[] tooLong = {250, 243, 32, 128, 77, 0, 64};
        Due.same("a length of 65", takenByEach(Lander.join(tooLong, least)), "0000000" + atItsLast);
        int[] farTooLong = {250, 243, 32, 128, 77, 7, 255};
        Due.same("a length of 2048", takenByEach(Lander.join(farTooLong, least)), "0000000" + atItsLast);
        int[] tooShort = {250, 243, 32, 128, 77, 0, 3};
        Due.same("a length of 4", takenByEach(Lander.join(tooShort, least)), "0000000" + atItsLast);
        int[] check = Lander.frame(0, 0, 0, Lander.join(least, least));
        check[check.length - 1] ^= 1;
        Due.same("the check: not before its last byte", takenByEach(check), "0".repeat(35) + "2");
    }

    private static void whereNoMarkStands() {
        int[] hail = Lander.hail(0);
        int[][] noise = {{0}, {32}, {243}, {250}, {250, 243}, {250, 250}, {250, 243, 31}, {250, 243, 250, 243}, {250, 32}};
        for (int k = 0; k < noise.length; k++) {
            Due.equal("behind noise " + k, takenOf(Lander.join(noise[k], hail)), 1);
            Due.equal("between noise " + k, takenOf(Lander.join(noise[k], hail, noise[k], hail)), 2);
        }
        Due.equal("nothing but noise", takenOf(new int[300]), 0);
    }

    private static void bytesWait() {
        for (int[] frame : new int[][] {frameOf(5), Lander.hail(0), frameOf(64)}) {
            for (int cut = 1; cut < frame.length; cut++) {
                Craft x = new Craft();
                Due.equal("the first " + cut, Lander.give(x, Lander.part(frame, 0, cut)), 0);
                x.minute(1000);
                x.send(0);
                Due.equal("all but " + cut, Lander.give(x, Lander.part(frame, cut, frame.length)), 1);
            }
        }
    }

    private static void aMarksBeginningWaits() {
        int[] hail = Lander.hail(0);
        for (int cut = 1; cut <= 3; cut++) {
            Craft x = new Craft();
            Due.equal("noise and " + cut, Lander.give(x, Lander.join(Lander.row(7, 250), Lander.part(hail, 0, cut))), 0);
            Due.equal("the rest behind " + cut, Lander.give(x, Lander.part(hail, cut, hail.length)), 1);
            Craft y = new Craft();
            Due.equal("a frame and " + cut, Lander.give(y, Lander.join(hail, Lander.part(hail, 0, cut))), 1);
            Due.equal("the rest behind a frame and " + cut, Lander.give(y, Lander.part(hail, cut, hail.length)), 1);
        }
    }
}
