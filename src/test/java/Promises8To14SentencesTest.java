/** Promises 8 to 14, sentence by sentence. */
public final class Promises8To14SentencesTest {
    private static final Class<IllegalArgumentException> ARGUMENT = IllegalArgumentException.class;
    private static final Class<IndexOutOfBoundsException> INDEX = IndexOutOfBoundsException.class;
    private static final Class<UnsupportedOperationException> OUT = UnsupportedOperationException.class;

    public static void main(String[] args) {
        sent();
        fail();
        powerAndOut();
        store();
        packet();
        content();
        Due.end();
    }

    private static void sent() {
        Sentence.in("Promise 8: sent");
        Sentence.says("Byte i of the latest frame to Earth.", Promises8To14SentencesTest::byteOfTheLatest);
        Sentence.says("IndexOutOfBoundsException if there is none such", Promises8To14SentencesTest::noSuchByteSent);
        Sentence.says("(or no frame yet).", Promises8To14SentencesTest::noFrameYet);
    }

    private static void fail() {
        Sentence.in("Promise 9: fail");
        Sentence.says("Power will fail behind so many writes from now on (1 .. 100).",
            Promises8To14SentencesTest::behindSoManyWrites);
        Sentence.says("UnsupportedOperationException if it is out", Promises8To14SentencesTest::failWhileOut);
        Sentence.says("IllegalArgumentException for other numbers.", Promises8To14SentencesTest::otherWrites);
    }

    private static void powerAndOut() {
        Sentence.in("Promise 10: power");
        Sentence.says("Power comes (again; also if it was not gone: it is gone first)",
            Promises8To14SentencesTest::powerComes);
        Sentence.says("how many packets the store has", Promises8To14SentencesTest::howManyPackets);
        Sentence.says("It is not about to fail then.", Promises8To14SentencesTest::notAboutToFail);
        Sentence.in("Promise 11: out");
        Sentence.says("Whether it is out.", Promises8To14SentencesTest::whetherItIsOut);
    }

    private static void store() {
        Sentence.in("Promise 12: store");
        Sentence.says("its packets (what = 0)", Promises8To14SentencesTest::itsPackets);
        Sentence.says("free blocks (1)", Promises8To14SentencesTest::freeBlocks);
        Sentence.says("entries of the journal (2)", Promises8To14SentencesTest::entriesOfTheJournal);
        Sentence.says("all writes ever (3)", Promises8To14SentencesTest::allWritesEver);
        Sentence.says("IllegalArgumentException if there is no such what.", Promises8To14SentencesTest::noSuchWhatOfStore);
    }

    private static void packet() {
        Sentence.in("Promise 13: packet");
        Sentence.says("Of the i-th packet in the store: its number (what = 0)", Promises8To14SentencesTest::itsNumber);
        Sentence.says("length (1)", Promises8To14SentencesTest::itsLength);
        Sentence.says("APID (2)", Promises8To14SentencesTest::itsApid);
        Sentence.says("its first block (3)", Promises8To14SentencesTest::itsFirstBlock);
        Sentence.says("how many bytes of it were emitted (4)", Promises8To14SentencesTest::howManyWereEmitted);
        Sentence.says("IndexOutOfBoundsException if there is no such packet", Promises8To14SentencesTest::noSuchPacket);
        Sentence.says("IllegalArgumentException if there is no such what.", Promises8To14SentencesTest::noSuchWhatOfPacket);
    }

    private static void content() {
        Sentence.in("Promise 14: content");
        Sentence.says("Byte k of the i-th packet in the store.", Promises8To14SentencesTest::byteOfAPacket);
        Sentence.says("IndexOutOfBoundsException if there is no such packet or byte.",
            Promises8To14SentencesTest::noSuchPacketOrByte);
    }

    /** With packets of these lengths, their APIDs 2, 3, 4 and so on. */
    private static Craft with(int... lengths) {
        Craft x = Lander.hailed();
        for (int k = 0; k < lengths.length; k++) {
            Lander.giveInTwo(x, Lander.packet(2 + k, lengths[k]));
        }
        return x;
    }

    private static void byteOfTheLatest() {
        Craft x = with(7);
        x.send(1);
        Due.equal("byte 1 of channel 1", x.sent(1), 65);
        x.send(0);
        Due.equal("byte 0", x.sent(0), 83);
        Due.equal("byte 1 of channel 0", x.sent(1), 64);
        Due.equal("the packet", x.sent(8), 8);
        x.send(0);
        Due.equal("the latest alone", x.sent(8), 85);
        x.window(1, 0, 1, 0);
        Due.badState("a refused one", () -> x.send(1));
        Due.equal("it is not the latest", x.sent(1), 64);
        x.power();
        Due.equal("power() sends nothing", x.sent(1), 64);
        Craft out = Lander.outOfPower();
        Due.equal("while it is out", out.sent(1), 65);
        Due.isTrue("the last byte", out.sent(31) >= 0);
    }

    private static void noSuchByteSent() {
        for (int i : new int[] {Integer.MIN_VALUE, -2, -1, 32, 33, 64, Integer.MAX_VALUE}) {
            Craft x = Lander.hailed();
            x.send(0);
            Due.refused("sent(" + i + ")", INDEX, x, () -> x.sent(i));
        }
        Craft x = Lander.hailed();
        x.send(0);
        Due.equal("sent(0)", x.sent(0), 83);
        Due.equal("sent(31)", x.sent(31), 14);
    }

    private static void noFrameYet() {
        for (int i : new int[] {-1, 0, 1, 31, 32}) {
            Craft x = with(7);
            Due.refused("sent(" + i + ")", INDEX, x, () -> x.sent(i));
            x.window(1, 0, 1, 0);
            Due.badState("a refused frame", () -> x.send(0));
            Due.badIndex("sent(" + i + ") behind it", () -> x.sent(i));
            Due.badArgument("another", () -> x.send(2));
            Due.badIndex("sent(" + i + ") behind that", () -> x.sent(i));
        }
    }

    /** Adds and drops until it is out: how many writes there were. */
    private static int writesUntilOut(Craft x) {
        int before = x.store(3);
        while (!x.out() && x.store(3) - before <= 120) {
            Lander.fill(x, 2, 8);
            for (int k = 0; k < 3 && !x.out(); k++) {
                x.send(0);
            }
        }
        return x.out() ? x.store(3) - before : -1;
    }

    private static void behindSoManyWrites() {
        for (int writes = 1; writes <= 100; writes++) {
            Craft x = Lander.hailed();
            Lander.fill(x, 2, 3);
            x.fail(writes);
            Due.equal("fail(" + writes + ")", writesUntilOut(x), writes);
        }
        Craft x = Lander.hailed();
        x.fail(2);
        x.fail(100);
        Due.equal("fail(100) behind fail(2)", writesUntilOut(x), 100);
        Craft y = Lander.hailed();
        y.fail(100);
        Lander.fill(y, 2, 3);
        y.fail(1);
        Due.equal("fail(1) behind fail(100) and writes", writesUntilOut(y), 1);
    }

    private static void failWhileOut() {
        for (int writes : new int[] {-1, 0, 1, 100, 101}) {
            Craft x = Lander.outOfPower();
            Due.refused("fail(" + writes + ")", OUT, x, () -> x.fail(writes));
            x.power();
            Lander.give(x, Lander.hail(0));
            Lander.fill(x, 2, 8);
            Due.isFalse("it had no effect", x.out());
        }
    }

    private static void otherWrites() {
        for (int writes : new int[] {Integer.MIN_VALUE, -100, -1, 0, 101, 102, 1000, Integer.MAX_VALUE}) {
            Craft x = Lander.hailed();
            Due.refused("fail(" + writes + ")", ARGUMENT, x, () -> x.fail(writes));
            Lander.fill(x, 2, 8);
            Due.isFalse("it had no effect", x.out());
            x.fail(3);
            Due.refused("fail(" + writes + ") behind fail(3)", ARGUMENT, x, () -> x.fail(writes));
            Due.equal("nor on what was set", writesUntilOut(x), 3);
        }
    }

    private static void powerComes() {
        Craft out = Lander.outOfPower();
        out.power();
        Due.isFalse("out() then", out.out());
        Due.equal("report() then", out.report(), 0);
        Craft on = with(50);
        on.send(0);
        Due.equal("emitted", on.packet(0, 4), 22);
        Due.equal("power() though it was not gone", on.power(), 1);
        Due.isFalse("out() behind it", on.out());
        Due.equal("the session is off", on.report(), 0);
        Due.equal("what was emitted is forgotten", on.packet(0, 4), 0);
        Due.equal("and again", on.power(), 1);
        Due.equal("no write by it", on.store(3), 4);
    }

    private static void howManyPackets() {
        Due.equal("none", new Craft().power(), 0);
        Craft full = Lander.hailed();
        Lander.fill(full, 3, 24);
        Due.equal("a full store", full.power(), 24);
        Due.equal("as store(0) says", full.store(0), 24);
        Due.equal("one that was out", Lander.outOfPower().power(), 1);
    }

    private static void notAboutToFail() {
        Craft x = Lander.hailed();
        x.fail(1);
        x.power();
        Lander.give(x, Lander.hail(0));
        Due.equal("fail(1) is no more", writesUntilOut(x), -1);
        Craft y = Lander.hailed();
        y.fail(5);
        Lander.fill(y, 2, 2);
        y.power();
        Lander.give(y, Lander.hail(0));
        Due.equal("the last of five writes is no more", writesUntilOut(y), -1);
        Craft z = Lander.outOfPower();
        z.power();
        z.fail(2);
        Lander.give(z, Lander.hail(0));
        Due.equal("it may be set again", writesUntilOut(z), 2);
    }

    private static void whetherItIsOut() {
        Craft x = Lander.hailed();
        Due.isFalse("at first", x.out());
        x.fail(2);
        Due.isFalse("about to fail", x.out());
        Lander.give(x, Lander.expedited(Lander.packet(2, 7)));
        Due.isTrue("behind the second write", x.out());
        Due.isTrue("asked again", x.out());
        x.minute(1);
        Due.isTrue("a minute later", x.out());
        x.power();
        Due.isFalse("power came", x.out());
    }

    private static void itsPackets() {
        Craft x = Lander.hailed();
        Due.equal("none", x.store(0), 0);
        Lander.fill(x, 2, 24);
        Due.equal("as many as can be", x.store(0), 24);
        x.send(0);
        Due.equal("three sent", x.store(0), 21);
        Due.equal("while it is out", Lander.outOfPower().store(0), 1);
    }

    private static void freeBlocks() {
        Craft x = Lander.hailed();
        Due.equal("all", x.store(1), 24);
        Lander.fill(x, 2, 24);
        Due.equal("none", x.store(1), 0);
        x.send(0);
        Due.equal("three sent", x.store(1), 3);
        Due.equal("while it is out", Lander.outOfPower().store(1), 23);
    }

    private static void entriesOfTheJournal() {
        Craft x = Lander.hailed();
        Due.equal("none", x.store(2), 0);
        Lander.fill(x, 2, 20);
        for (int k = 0; k < 7; k++) {
            x.send(0);
        }
        Due.equal("as many as can be", x.store(2), 40);
        x.power();
        Due.equal("power changes none", x.store(2), 40);
        Due.equal("while it is out", Lander.outOfPower().store(2), 1);
    }

    private static void allWritesEver() {
        Craft x = Lander.hailed();
        Due.equal("none", x.store(3), 0);
        Lander.fill(x, 2, 1);
        Due.equal("a block, an entry", x.store(3), 2);
        x.send(0);
        Due.equal("an entry", x.store(3), 3);
        x.power();
        Due.equal("power changes none", x.store(3), 3);
        Due.equal("while it is out", Lander.outOfPower().store(3), 3);
    }

    private static void noSuchWhatOfStore() {
        for (int what : new int[] {Integer.MIN_VALUE, -1, 4, 5, Integer.MAX_VALUE}) {
            Craft x = with(7);
            Due.refused("store(" + what + ")", ARGUMENT, x, () -> x.store(what));
            Craft out = Lander.outOfPower();
            Due.refused("store(" + what + ") while out", ARGUMENT, out, () -> out.store(what));
        }
    }

    private static void itsNumber() {
        Craft x = with(7, 7, 7);
        Due.equal("the first", x.packet(0, 0), 0);
        Due.equal("the last", x.packet(2, 0), 2);
        x.send(0);
        Due.equal("the only one left", x.packet(0, 0), 1);
    }

    private static void itsLength() {
        Craft x = with(7, 60);
        Due.equal("the least", x.packet(0, 1), 7);
        Due.equal("the greatest", x.packet(1, 1), 60);
    }

    private static void itsApid() {
        Craft x = Lander.hailed();
        Lander.give(x, Lander.expedited(Lander.join(Lander.packet(0, 7), Lander.packet(2047, 7), Lander.packet(255, 7))));
        Due.equal("the least", x.packet(0, 2), 0);
        Due.equal("the greatest", x.packet(1, 2), 2047);
        Due.equal("one of a byte", x.packet(2, 2), 255);
    }

    private static void itsFirstBlock() {
        Craft x = with(60, 41, 21, 7);
        int[] want = {0, 3, 6, 8};
        for (int i = 0; i < 4; i++) {
            Due.equal("of " + i, x.packet(i, 3), want[i]);
        }
        Craft full = Lander.hailed();
        Lander.fill(full, 2, 24);
        Due.equal("the greatest", full.packet(23, 3), 23);
    }

    private static void howManyWereEmitted() {
        Craft x = with(60);
        int[] want = {0, 22, 44};
        for (int k = 0; k < 3; k++) {
            Due.equal("behind " + k + " frames", x.packet(0, 4), want[k]);
            x.send(0);
        }
        Craft y = Lander.hailed();
        Lander.fill(y, 2, 4);
        y.send(0);
        Due.equal("one byte of the fourth", y.packet(0, 4), 1);
        y.send(1);
        Due.equal("none by the other channel", y.packet(0, 4), 1);
    }

    private static void noSuchPacket() {
        Craft empty = Lander.hailed();
        Due.refused("packet(0, 0) of an empty store", INDEX, empty, () -> empty.packet(0, 0));
        Due.refused("packet(0, 5) of an empty store", INDEX, empty, () -> empty.packet(0, 5));
        for (int i : new int[] {Integer.MIN_VALUE, -1, 2, 3, Integer.MAX_VALUE}) {
            Craft x = with(7, 7);
            for (int what = -1; what <= 5; what++) {
                int of = what;
                Due.throwing("packet(" + i + ", " + what + ")", INDEX, () -> x.packet(i, of));
            }
        }
        Craft full = Lander.hailed();
        Lander.fill(full, 2, 24);
        Due.equal("packet(23, 0) of a full store", full.packet(23, 0), 23);
        Due.badIndex("packet(24, 0) of a full store", () -> full.packet(24, 0));
        full.send(0);
        Due.equal("packet(20, 0) when three are sent", full.packet(20, 0), 23);
        Due.badIndex("packet(21, 0) when three are sent", () -> full.packet(21, 0));
        Craft out = Lander.outOfPower();
        Due.refused("packet(1, 0) while out", INDEX, out, () -> out.packet(1, 0));
    }

    private static void noSuchWhatOfPacket() {
        for (int what : new int[] {Integer.MIN_VALUE, -1, 5, 6, Integer.MAX_VALUE}) {
            Craft x = with(7, 7);
            Due.refused("packet(1, " + what + ")", ARGUMENT, x, () -> x.packet(1, what));
            Craft out = Lander.outOfPower();
            Due.refused("packet(0, " + what + ") while out", ARGUMENT, out, () -> out.packet(0, what));
        }
    }

    private static void byteOfAPacket() {
        Craft x = with(7, 60);
        for (int i = 0; i < 2; i++) {
            int[] want = Lander.packet(2 + i, i == 0 ? 7 : 60);
            for (int k = 0; k < want.length; k++) {
                Due.equal("content(" + i + ", " + k + ")", x.content(i, k), want[k]);
            }
        }
        x.send(1);
        Due.equal("one that is sent in part is there whole", x.content(1, 0), 8);
        Due.equal("while it is out", Lander.outOfPower().content(0, 1), 2);
    }

    private static void noSuchPacketOrByte() {
        Craft empty = new Craft();
        Due.refused("content(0, 0) of an empty store", INDEX, empty, () -> empty.content(0, 0));
        for (int i : new int[] {Integer.MIN_VALUE, -1, 2, Integer.MAX_VALUE}) {
            Craft x = with(7, 20);
            Due.refused("content(" + i + ", 0)", INDEX, x, () -> x.content(i, 0));
        }
        for (int k : new int[] {Integer.MIN_VALUE, -1, 7, 8, 19, 20, 60, Integer.MAX_VALUE}) {
            Craft x = with(7, 20);
            Due.refused("content(0, " + k + ")", INDEX, x, () -> x.content(0, k));
        }
        Craft greatest = with(60);
        Due.equal("content(0, 59) of 60", greatest.content(0, 59), Lander.packet(2, 60)[59]);
        Due.badIndex("content(0, 60) of 60", () -> greatest.content(0, 60));
        Craft out = Lander.outOfPower();
        Due.refused("content(0, 7) while out", INDEX, out, () -> out.content(0, 7));
        Due.refused("content(1, 0) while out", INDEX, out, () -> out.content(1, 0));
    }
}
