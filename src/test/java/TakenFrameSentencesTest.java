/** Terms: what a taken frame brings about. */
public final class TakenFrameSentencesTest {
    public static void main(String[] args) {
        Sentence.in("Terms");
        Sentence.says("A TAKEN FRAME is looked at only if the lander is SEEN", TakenFrameSentencesTest::onlyIfSeen);
        Sentence.says("its spacecraft has to be 77", TakenFrameSentencesTest::spacecraftHasToBe77);
        Sentence.says("A directive, of any quality, has two data bytes at least", TakenFrameSentencesTest::twoDataBytesAtLeast);
        Sentence.says("1 HAIL and any byte: the session is ON, on the frame's channel", TakenFrameSentencesTest::hail);
        Sentence.says("V becomes 0, the RETRANSMIT flag and the count of expedited frames, too",
            TakenFrameSentencesTest::hailMakesAllZero);
        Sentence.says("segments are forgotten", TakenFrameSentencesTest::hailForgetsSegments);
        Sentence.says("2 END and any byte: the session is OFF", TakenFrameSentencesTest::end);
        Sentence.says("3 SET and v, if the session is on and this its channel: V becomes v, the flag 0",
            TakenFrameSentencesTest::set);
        Sentence.says("Others do nothing.", TakenFrameSentencesTest::otherDirectives);
        Sentence.says("Data count only if the session is on and this its channel.", TakenFrameSentencesTest::dataCountOnlyIfOn);
        Sentence.says("SEQUENCED: if its number is V, its packets are STORED", TakenFrameSentencesTest::itsNumberIsV);
        Sentence.says("if all of them are, V becomes the next one (modulo 256) and the flag 0",
            TakenFrameSentencesTest::vBecomesTheNext);
        Sentence.says("else (no room for all) nothing of the frame counts and the flag is 1",
            TakenFrameSentencesTest::noRoomForAll);
        Sentence.says("If its number is 1 .. 127 (modulo 256) above V, the flag is 1.", TakenFrameSentencesTest::above1To127);
        Sentence.says("Else nothing.", TakenFrameSentencesTest::above128To255);
        Sentence.says("EXPEDITED: the count goes on by 1 (modulo 8)", TakenFrameSentencesTest::countModulo8);
        Sentence.says("its packets are stored as far as there is room", TakenFrameSentencesTest::asFarAsThereIsRoom);
        Sentence.says("PACKETS: the data are packets, one behind the other", TakenFrameSentencesTest::oneBehindTheOther);
        Sentence.says("from the first that is none on (or does not end there) nothing counts",
            TakenFrameSentencesTest::fromTheFirstThatIsNone);
        Due.end();
    }

    private static void onlyIfSeen() {
        Craft x = new Craft();
        x.window(0, 0, 2, 1);
        int[] hail = Lander.hail(0);
        x.minute(1);
        Due.equal("taken, not seen", Lander.give(x, hail), 1);
        Due.equal("report, not seen", x.report(), 0);
        Lander.give(x, Lander.part(hail, 0, 13));
        x.minute(1);
        Due.equal("its last byte comes when it is seen", x.receive(hail[13], 1), 1);
        Due.equal("report, seen", x.report(), 0x8000);
        Lander.give(x, Lander.part(Lander.end(0), 0, 13));
        x.minute(1);
        Due.equal("its last byte comes when it is not seen", x.receive(Lander.end(0)[13], 1), 1);
        Due.equal("not ended", x.report(), 0x8000);
        Lander.give(x, Lander.sequenced(0, Lander.packet(2, 7)));
        Lander.give(x, Lander.expedited(Lander.packet(2, 7)));
        Lander.give(x, Lander.sequenced(5));
        Due.equal("no data while it is not seen", x.store(0), 0);
        Due.equal("nothing counted", x.report(), 0x8000);
    }

    private static void spacecraftHasToBe77() {
        for (int number : new int[] {0, 76, 78, 77 + 256, 77 + 512, 77 + 768, 1023}) {
            Craft x = Lander.hailed();
            int taken = Lander.give(x, Lander.join(
                Lander.frameOf(number, 0, 0, 0, Lander.packet(2, 7)),
                Lander.frameOf(number, 32, 0, 0, Lander.packet(2, 7)),
                Lander.frameOf(number, 0, 0, 1),
                Lander.frameOf(number, 16, 0, 0, 2, 0)));
            Due.equal("taken for " + number, taken, 4);
            Due.equal("report for " + number, x.report(), 0x8000);
            Due.equal("stored for " + number, x.store(0), 0);
        }
    }

    private static void twoDataBytesAtLeast() {
        for (int directive = 1; directive <= 3; directive++) {
            for (int length : new int[] {0, 1, 2, 3, 58, 59}) {
                int[] data = new int[length];
                if (length > 0) {
                    data[0] = directive;
                }
                for (int quality = 0; quality <= 32; quality += 32) {
                    Craft x = Lander.hailed();
                    Lander.give(x, Lander.sequenced(0));
                    Lander.give(x, Lander.frame(16 | quality, 0, 1, data));
                    int want = length < 2 ? 0x8001 : directive == 2 ? 0 : 0x8000;
                    Due.equal("directive " + directive + " with " + length + " bytes", x.report(), want);
                }
            }
        }
    }

    private static void hail() {
        for (int any : new int[] {0, 1, 2, 3, 255}) {
            for (int channel = 0; channel < 2; channel++) {
                Craft x = new Craft();
                Lander.give(x, Lander.frame(16, channel, any, 1, any));
                Due.equal("on, with any byte " + any, x.report(), 0x8000 + 0x1000 * channel);
                Lander.give(x, Lander.frame(16, 1 - channel, any, 1, any));
                Due.equal("hailed while on", x.report(), 0x9000 - 0x1000 * channel);
            }
        }
    }

    private static void hailMakesAllZero() {
        Craft x = Lander.hailed();
        Lander.give(x, Lander.set(0, 255));
        Lander.give(x, Lander.sequenced(0));
        for (int k = 0; k < 7; k++) {
            Lander.give(x, Lander.expedited());
        }
        Due.equal("all that can be", x.report(), 0xA7FF);
        Lander.give(x, Lander.hail(0));
        Due.equal("all is 0", x.report(), 0x8000);
    }

    private static void hailForgetsSegments() {
        for (int stream = 0; stream < 4; stream++) {
            Craft x = Lander.hailed();
            Lander.give(x, Lander.segment(0, 0, Lander.FIRST | stream, Lander.part(Lander.packet(2, 20), 0, 9)));
            Lander.give(x, Lander.hail(0));
            Lander.give(x, Lander.segment(0, 0, Lander.LAST | stream, Lander.part(Lander.packet(2, 20), 9, 20)));
            Due.equal("stream " + stream, x.store(0), 0);
            Due.equal("V goes on", x.report(), 0x8001);
        }
    }

    private static void end() {
        for (int any : new int[] {0, 1, 2, 3, 255}) {
            for (int channel = 0; channel < 2; channel++) {
                Craft x = Lander.hailed();
                Lander.give(x, Lander.frame(16, channel, any, 2, any));
                Due.equal("off, with any byte " + any, x.report(), 0);
                Lander.give(x, Lander.end(channel));
                Due.equal("ended while off", x.report(), 0);
            }
        }
    }

    private static void set() {
        for (int v : new int[] {0, 1, 127, 128, 255}) {
            Craft x = Lander.hailed();
            Lander.give(x, Lander.set(0, 77));
            Lander.give(x, Lander.sequenced(78));
            Due.equal("the flag", x.report(), 0xA000 + 77);
            Lander.give(x, Lander.set(1, v));
            Due.equal("another channel", x.report(), 0xA000 + 77);
            Lander.give(x, Lander.set(0, v));
            Due.equal("set to " + v, x.report(), 0x8000 + v);
        }
        Craft off = new Craft();
        Lander.give(off, Lander.set(0, 9));
        Due.equal("off it stays off", off.report(), 0);
        Lander.give(off, Lander.hail(0));
        Due.equal("and V is 0", off.report(), 0x8000);
        Craft x = Lander.hailed();
        Lander.give(x, Lander.expedited());
        Lander.give(x, Lander.segment(0, 0, Lander.FIRST, Lander.part(Lander.packet(2, 20), 0, 9)));
        Lander.give(x, Lander.set(0, 9));
        Due.equal("the count stays", x.report(), 0x8109);
        Lander.give(x, Lander.segment(0, 9, Lander.LAST, Lander.part(Lander.packet(2, 20), 9, 20)));
        Due.equal("segments stay", x.store(0), 1);
    }

    private static void otherDirectives() {
        Craft x = Lander.hailed();
        Lander.give(x, Lander.sequenced(0));
        Lander.give(x, Lander.expedited());
        Lander.give(x, Lander.sequenced(5));
        for (int other : new int[] {0, 4, 5, 17, 128, 129, 130, 131, 254, 255}) {
            Lander.give(x, Lander.frame(16, 0, 1, other, 1));
            Lander.give(x, Lander.frame(48, 1, 1, other, 3));
            Due.equal("directive " + other, x.report(), 0xA101);
        }
        Due.equal("nothing stored", x.store(3), 0);
    }

    private static void dataCountOnlyIfOn() {
        for (int quality = 0; quality <= 32; quality += 32) {
            Craft x = new Craft();
            Lander.give(x, Lander.frame(quality, 0, 0, Lander.packet(2, 7)));
            Due.equal("off: nothing stored", x.store(3), 0);
            Due.equal("off", x.report(), 0);
            Lander.give(x, Lander.hail(1));
            Lander.give(x, Lander.frame(quality, 0, 0, Lander.packet(2, 7)));
            Lander.give(x, Lander.frame(quality, 0, 1));
            Due.equal("another channel: nothing stored", x.store(3), 0);
            Due.equal("another channel", x.report(), 0x9000);
            Lander.give(x, Lander.frame(quality, 1, 0, Lander.packet(2, 7)));
            Due.equal("its channel: stored", x.store(0), 1);
            Due.equal("its channel", x.report(), quality == 0 ? 0x9001 : 0x9100);
            Lander.give(x, Lander.end(1));
            Lander.give(x, Lander.frame(quality, 1, 1, Lander.packet(2, 7)));
            Due.equal("off again: nothing stored", x.store(0), 1);
        }
    }

    /** The orbiter behind a sequenced frame with a packet, its number so far above V. */
    private static Craft behind(int v, int above) {
        Craft x = Lander.hailed();
        Lander.give(x, Lander.set(0, v));
        Lander.give(x, Lander.sequenced(v + above & 255, Lander.packet(2, 7)));
        return x;
    }

    private static void itsNumberIsV() {
        for (int v : new int[] {0, 1, 127, 128, 255}) {
            Due.equal("stored, V " + v, behind(v, 0).store(0), 1);
            for (int above : new int[] {1, 2, 127, 128, 254, 255}) {
                Due.equal("stored, " + above + " above V " + v, behind(v, above).store(3), 0);
            }
        }
    }

    private static void vBecomesTheNext() {
        for (int v = 0; v < 256; v++) {
            Due.equal("behind V " + v, behind(v, 0).report(), 0x8000 + (v + 1) % 256);
        }
        Craft x = Lander.hailed();
        Lander.give(x, Lander.set(0, 254));
        for (int number = 254; number < 259; number++) {
            Lander.give(x, Lander.sequenced(number + 1 & 255));
            Due.equal("the flag before " + number, x.report(), 0xA000 + (number & 255));
            Lander.give(x, Lander.sequenced(number & 255));
            Due.equal("no flag behind " + number, x.report(), 0x8000 + (number + 1 & 255));
        }
    }

    private static void noRoomForAll() {
        Craft x = Lander.hailed();
        Lander.fill(x, 3, 22);
        String before = x.store(0) + " " + x.store(1) + " " + x.store(2) + " " + x.store(3);
        Lander.give(x, Lander.sequenced(0, Lander.sevens(2, 3)));
        String after = x.store(0) + " " + x.store(1) + " " + x.store(2) + " " + x.store(3);
        Due.same("three for two free blocks: the store", after, before);
        Due.equal("three for two free blocks: the flag", x.report(), 0xA300);
        Lander.give(x, Lander.sequenced(0, Lander.packet(2, 41)));
        Due.equal("one of three blocks: nothing written", x.store(3), 44);
        Due.equal("one of three blocks: the flag", x.report(), 0xA300);
        Lander.give(x, Lander.sequenced(0, Lander.sevens(2, 2)));
        Due.equal("two for two free blocks: stored", x.store(0), 24);
        Due.equal("two for two free blocks: no flag", x.report(), 0x8301);
        Lander.give(x, Lander.sequenced(1, Lander.packet(2, 7)));
        Due.equal("one for none: not stored", x.store(0), 24);
        Due.equal("one for none: the flag", x.report(), 0xA301);
        Lander.give(x, Lander.sequenced(1));
        Due.equal("none for none", x.report(), 0x8302);
    }

    private static void above1To127() {
        for (int v : new int[] {0, 1, 127, 128, 129, 200, 255}) {
            for (int above = 1; above <= 127; above++) {
                Due.equal(above + " above V " + v, behind(v, above).report(), 0xA000 + v);
            }
        }
    }

    private static void above128To255() {
        for (int v : new int[] {0, 1, 127, 128, 129, 200, 255}) {
            for (int above = 128; above <= 255; above++) {
                Due.equal(above + " above V " + v, behind(v, above).report(), 0x8000 + v);
            }
        }
        Craft x = Lander.hailed();
        Lander.give(x, Lander.sequenced(127));
        Lander.give(x, Lander.sequenced(128));
        Lander.give(x, Lander.sequenced(255));
        Due.equal("the flag stays", x.report(), 0xA000);
    }

    private static void countModulo8() {
        Craft x = Lander.hailed();
        for (int k = 1; k <= 17; k++) {
            Lander.give(x, Lander.frame(32, 0, 255));
            Due.equal(k + " expedited frames", x.report(), 0x8000 + 256 * (k % 8));
        }
        Lander.give(x, Lander.sequenced(9));
        Lander.give(x, Lander.expedited(Lander.packet(2, 7)));
        Due.equal("V and the flag stay", x.report(), 0xA200);
    }

    private static void asFarAsThereIsRoom() {
        Craft x = Lander.hailed();
        Lander.fill(x, 3, 22);
        Lander.give(x, Lander.expedited(Lander.sevens(2, 3)));
        Due.equal("two of three", x.store(0), 24);
        Due.equal("no free block", x.store(1), 0);
        Due.equal("no flag", x.report(), 0x8400);
        Lander.give(x, Lander.expedited(Lander.packet(2, 7)));
        Due.equal("none", x.store(0), 24);
        Due.equal("nothing written for it", x.store(3), 48);
        Due.equal("counted", x.report(), 0x8500);
        Craft y = Lander.hailed();
        Lander.fill(y, 3, 23);
        Lander.give(y, Lander.expedited(Lander.join(Lander.packet(4, 21), Lander.packet(6, 20))));
        Due.equal("for one of two blocks there is none, for the next there is", y.store(0), 24);
        Due.equal("it is the next one", y.packet(23, 2), 6);
    }

    private static void oneBehindTheOther() {
        Craft x = Lander.hailed();
        int[] eight = new int[0];
        for (int k = 0; k < 8; k++) {
            eight = Lander.join(eight, Lander.packet(k + 1, 7));
        }
        Lander.give(x, Lander.sequenced(0, eight));
        Due.equal("eight of the least length", x.store(0), 8);
        for (int k = 0; k < 8; k++) {
            Due.equal("the number of " + k, x.packet(k, 0), k);
            Due.equal("the APID of " + k, x.packet(k, 2), k + 1);
        }
        Lander.give(x, Lander.sequenced(1, Lander.packet(9, 59)));
        Due.equal("one that is all of the greatest data", x.packet(8, 1), 59);
        Lander.give(x, Lander.sequenced(2, Lander.join(Lander.packet(10, 52), Lander.packet(11, 7))));
        Due.equal("two that are all of the data", x.packet(10, 2), 11);
        Lander.give(x, Lander.sequenced(3));
        Due.equal("none", x.store(0), 11);
        Due.equal("report", x.report(), 0x8004);
    }

    private static void fromTheFirstThatIsNone() {
        int[] good = Lander.packet(2, 7);
        for (int length = 1; length < 7; length++) {
            Craft x = Lander.hailed();
            Lander.give(x, Lander.sequenced(0, Lander.join(good, Lander.part(good, 0, length))));
            Due.equal("cut off behind " + length, x.store(0), 1);
            Due.equal("V goes on", x.report(), 0x8001);
        }
        for (int length = 52; length < 59; length++) {
            Craft x = Lander.hailed();
            int[] begun = Lander.part(Lander.packet(4, 8), 0, 59 - length);
            Lander.give(x, Lander.sequenced(0, Lander.join(Lander.packet(2, length), begun)));
            Due.equal("one of " + length + ", and one begun up to the end of the greatest data", x.store(0), 1);
        }
        Craft eight = Lander.hailed();
        Lander.give(eight, Lander.sequenced(0, Lander.join(Lander.sevens(2, 8), Lander.part(good, 0, 3))));
        Due.equal("eight, and one begun", eight.store(0), 8);
        int[] longer = Lander.packet(2, 8);
        longer[5] = 2;
        int[][] none = {{0}, {7, 0, 0, 0, 0, 0, 0}, {16, 0, 0, 0, 0, 0, 0}, longer, Lander.part(longer, 0, 7)};
        for (int k = 0; k < none.length; k++) {
            for (int quality = 0; quality <= 32; quality += 32) {
                Craft x = Lander.hailed();
                Lander.give(x, Lander.frame(quality, 0, 0, Lander.join(good, none[k])));
                Due.equal("one before none " + k, x.store(0), 1);
                Lander.give(x, Lander.frame(quality, 0, 1, none[k]));
                Due.equal("none " + k, x.store(0), 1);
            }
        }
        Craft x = Lander.hailed();
        Lander.give(x, Lander.sequenced(0, Lander.join(good, none[1], good)));
        Due.equal("what is behind one that is none", x.store(0), 1);
        Craft y = Lander.hailed();
        Lander.fill(y, 3, 23);
        Lander.give(y, Lander.sequenced(0, Lander.join(good, none[2], good)));
        Due.equal("it needs no room either", y.report(), 0x8301);
    }
}
