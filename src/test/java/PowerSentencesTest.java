/** Terms: power that fails behind a number of writes, and comes again. */
public final class PowerSentencesTest {
    private static final int[] LONG = Lander.packet(2, 50);

    public static void main(String[] args) {
        Sentence.in("Terms");
        Sentence.says("POWER may fail behind a number of writes", PowerSentencesTest::behindANumberOfWrites);
        Sentence.says("the write at hand is done, nothing after it", PowerSentencesTest::theWriteAtHandIsDone);
        Sentence.says("then the orbiter is OUT", PowerSentencesTest::thenOut);
        Sentence.says("When power comes again, the packets are those ADDED and not DROPPED by the journal",
            PowerSentencesTest::addedAndNotDropped);
        Sentence.says("the session is off", PowerSentencesTest::theSessionIsOff);
        Sentence.says("segments, bytes that waited, and what was emitted of packets are forgotten",
            PowerSentencesTest::forgotten);
        Sentence.says("numbers of AOS frames go on", PowerSentencesTest::numbersGoOn);
        Due.end();
    }

    /** With one packet of 50 bytes coming, of three blocks: four writes. */
    private static Craft failing(int writes) {
        Craft x = Lander.hailed();
        x.fail(writes);
        Lander.give(x, Lander.sequenced(0, LONG));
        return x;
    }

    private static void behindANumberOfWrites() {
        for (int writes = 1; writes <= 6; writes++) {
            Craft x = failing(writes);
            Due.equal("out behind " + writes + " of 4", x.out() ? 1 : 0, writes <= 4 ? 1 : 0);
            Due.equal("writes", x.store(3), Math.min(writes, 4));
        }
    }

    private static void theWriteAtHandIsDone() {
        for (int writes = 1; writes <= 4; writes++) {
            Craft x = failing(writes);
            Due.equal("blocks alone, or the entry too: packets", x.store(0), writes == 4 ? 1 : 0);
            Due.equal("entries", x.store(2), writes == 4 ? 1 : 0);
        }
        Craft two = Lander.hailed();
        two.fail(2);
        Lander.give(two, Lander.sequenced(0, Lander.sevens(2, 2)));
        Due.equal("the first of a frame's packets is done", two.store(0), 1);
        Due.equal("nothing after it", two.store(3), 2);
        for (int writes = 1; writes <= 3; writes++) {
            Craft x = Lander.hailed();
            Lander.fill(x, 2, 3);
            x.fail(writes);
            x.send(0);
            Due.equal(writes + " drops of three: packets", x.store(0), 3 - writes);
            Due.equal(writes + " drops of three: entries", x.store(2), 3 + writes);
            Due.equal(writes + " drops of three: writes", x.store(3), 6 + writes);
        }
        for (int writes = 1; writes <= 3; writes++) {
            Craft x = Lander.hailed();
            Lander.fill(x, 2, 20);
            for (int k = 0; k < 7; k++) {
                x.send(0);
            }
            x.fail(writes);
            Lander.fill(x, 2, 1);
            int[] entries = {40, 0, 1};
            Due.equal("block, journal anew, entry: entries behind " + writes, x.store(2), entries[writes - 1]);
            Due.equal("packets behind " + writes, x.store(0), writes == 3 ? 1 : 0);
        }
    }

    private static void thenOut() {
        Craft x = failing(1);
        Due.isTrue("out", x.out());
        Due.unsupported("receive", () -> x.receive(0, 1));
        Due.unsupported("report", x::report);
        Due.unsupported("send", () -> x.send(0));
        Due.unsupported("fail", () -> x.fail(1));
        Craft y = Lander.hailed();
        Lander.fill(y, 2, 1);
        y.fail(1);
        Due.isFalse("not yet", y.out());
        y.send(1);
        Due.isFalse("an empty frame writes nothing", y.out());
        y.send(0);
        Due.isTrue("by a drop", y.out());
        y.power();
        Due.isFalse("power came again", y.out());
    }

    private static void addedAndNotDropped() {
        for (int writes = 1; writes <= 4; writes++) {
            Craft x = failing(writes);
            Due.equal("behind " + writes, x.power(), writes == 4 ? 1 : 0);
            Due.equal("free blocks behind " + writes, x.store(1), writes == 4 ? 21 : 24);
            if (writes == 4) {
                for (int k = 0; k < 50; k++) {
                    Due.equal("byte " + k, x.content(0, k), LONG[k]);
                }
            }
        }
        for (int writes = 1; writes <= 3; writes++) {
            Craft x = Lander.hailed();
            Lander.fill(x, 2, 3);
            x.fail(writes);
            x.send(0);
            Due.equal(writes + " of three dropped", x.power(), 3 - writes);
            Due.equal("free blocks", x.store(1), 21 + writes);
            for (int i = 0; i < 3 - writes; i++) {
                Due.equal("number of " + i, x.packet(i, 0), writes + i);
            }
        }
        Due.equal("of an empty store", new Craft().power(), 0);
        Craft full = Lander.hailed();
        Lander.fill(full, 2, 24);
        Due.equal("of a full store", full.power(), 24);
        Due.equal("no free block", full.store(1), 0);
        Due.equal("the journal stays", full.store(2), 24);
    }

    private static void theSessionIsOff() {
        Craft x = failing(1);
        x.power();
        Due.equal("report", x.report(), 0);
        Lander.give(x, Lander.sequenced(0, LONG));
        Lander.give(x, Lander.sequenced(1, LONG));
        Due.equal("no data", x.store(0), 0);
        Lander.give(x, Lander.hail(0));
        Due.equal("all of it new", x.report(), 0x8000);
        Craft y = Lander.hailed();
        y.power();
        Due.equal("though it was not gone", y.report(), 0);
    }

    private static void forgotten() {
        Craft segments = Lander.hailed();
        Lander.give(segments, Lander.segment(0, 0, Lander.FIRST, Lander.part(LONG, 0, 20)));
        segments.power();
        Lander.give(segments, Lander.hail(0));
        Lander.give(segments, Lander.segment(0, 0, Lander.LAST, Lander.part(LONG, 20, 50)));
        Due.equal("segments", segments.store(0), 0);
        int[] hail = Lander.hail(0);
        for (int cut = 1; cut < hail.length; cut++) {
            Craft bytes = new Craft();
            Lander.give(bytes, Lander.part(hail, 0, cut));
            bytes.power();
            Due.equal("bytes that waited, " + cut, Lander.give(bytes, Lander.part(hail, cut, hail.length)), 0);
            Due.equal("a whole frame then", Lander.give(bytes, hail), 1);
        }
        Craft emitted = Lander.hailed();
        Lander.give(emitted, Lander.expedited(LONG));
        emitted.send(0);
        emitted.send(0);
        Due.equal("emitted before", emitted.packet(0, 4), 44);
        emitted.power();
        Due.equal("emitted then", emitted.packet(0, 4), 0);
        emitted.send(0);
        Due.equal("it begins again: the pointer", emitted.sent(6) * 256 + emitted.sent(7), 0);
        Due.equal("it begins again: byte 0", emitted.sent(8), 8);
        Craft cut = Lander.hailed();
        Lander.fill(cut, 2, 2);
        cut.fail(1);
        cut.send(0);
        cut.power();
        Due.equal("emitted whole and not dropped", cut.packet(0, 4), 0);
    }

    private static void numbersGoOn() {
        Craft x = Lander.hailed();
        Due.equal("channel 0", x.send(0), 0);
        Due.equal("channel 0", x.send(0), 1);
        Due.equal("channel 1", x.send(1), 0);
        x.power();
        Due.equal("channel 0 behind power()", x.send(0), 2);
        Due.equal("channel 1 behind power()", x.send(1), 1);
        Lander.give(x, Lander.hail(0));
        Lander.fill(x, 2, 1);
        x.fail(1);
        Due.equal("the frame at which power fails", x.send(0), 3);
        x.power();
        Due.equal("the next one", x.send(0), 4);
        Due.equal("it is told in the frame", x.sent(4), 4);
    }
}
