/** Promises 9 to 14: fail, power, out, store, packet, content. */
public final class StoreTest {
    public static void main(String[] args) {
        blocksAndEntries();
        leastFreeBlocks();
        contents();
        failAtEachWriteOfAStore();
        failAmidAFrame();
        failAtJournalRenewal();
        failAtRenewalBeforeADrop();
        journalIsRenewedOnlyWhenNeeded();
        numbersAreNeverUsedAgain();
        failIsSetAnew();
        framesLostWhenPowerFails();
        powerThatWasNotGone();
        wrongCalls();
        Due.end();
    }

    private static void storeIs(String what, Craft x, int packets, int free, int entries, int writes) {
        Due.equal(what + ": packets", x.store(0), packets);
        Due.equal(what + ": free blocks", x.store(1), free);
        Due.equal(what + ": entries", x.store(2), entries);
        Due.equal(what + ": writes", x.store(3), writes);
    }

    private static void expedite(Craft x, int[]... packets) {
        Lander.give(x, Lander.expedited(Lander.join(packets)));
    }

    private static void blocksAndEntries() {
        int[] lengths = {7, 20, 21, 40, 41, 59};
        int[] blocks = {1, 1, 2, 2, 3, 3};
        for (int k = 0; k < lengths.length; k++) {
            Craft x = Lander.hailed();
            expedite(x, Lander.packet(5, lengths[k]));
            storeIs("one of " + lengths[k], x, 1, 24 - blocks[k], 1, blocks[k] + 1);
            Due.equal("number", x.packet(0, 0), 0);
            Due.equal("length", x.packet(0, 1), lengths[k]);
            Due.equal("APID", x.packet(0, 2), 5);
            Due.equal("first block", x.packet(0, 3), 0);
            Due.equal("emitted", x.packet(0, 4), 0);
        }
    }

    private static void leastFreeBlocks() {
        Craft x = Lander.hailed();
        expedite(x, Lander.packet(2, 15), Lander.packet(3, 15));
        expedite(x, Lander.packet(5, 45));
        expedite(x, Lander.packet(4, 7));
        Due.equal("first block of 1", x.packet(1, 3), 1);
        Due.equal("first block of 2", x.packet(2, 3), 2);
        Due.equal("first block of 3", x.packet(3, 3), 5);
        x.send(0);
        storeIs("0 and 3 dropped", x, 2, 20, 6, 12);
        expedite(x, Lander.packet(6, 59));
        Due.equal("first block of 4", x.packet(2, 3), 0);
        expedite(x, Lander.packet(8, 7));
        Due.equal("5 and 6 were taken too", x.packet(3, 3), 7);
        int[] want = Lander.packet(6, 59);
        for (int k = 0; k < 59; k++) {
            Due.equal("over three blocks, byte " + k, x.content(2, k), want[k]);
        }
    }

    private static void contents() {
        Craft x = Lander.hailed();
        expedite(x, Lander.packet(2, 15), Lander.packet(300, 33));
        for (int k = 0; k < 15; k++) {
            Due.equal("content(0, k)", x.content(0, k), Lander.packet(2, 15)[k]);
        }
        for (int k = 0; k < 33; k++) {
            Due.equal("content(1, k)", x.content(1, k), Lander.packet(300, 33)[k]);
        }
        Due.badIndex("content(0, 15)", () -> x.content(0, 15));
        Due.badIndex("content(1, 33)", () -> x.content(1, 33));
        Due.badIndex("content(0, -1)", () -> x.content(0, -1));
        Due.badIndex("content(2, 0)", () -> x.content(2, 0));
        Due.badIndex("content(-1, 0)", () -> x.content(-1, 0));
    }

    private static void failAtEachWriteOfAStore() {
        for (int writes = 1; writes <= 4; writes++) {
            Craft x = Lander.hailed();
            expedite(x, Lander.packet(2, 7));
            x.fail(writes);
            Due.isFalse("not yet out", x.out());
            Lander.give(x, Lander.sequenced(0, Lander.packet(4, 50)));
            Due.isTrue("out behind " + writes, x.out());
            int packets = writes == 4 ? 2 : 1;
            storeIs("out behind " + writes, x, packets, writes == 4 ? 20 : 23, packets, 2 + writes);
            Due.equal("power()", x.power(), packets);
            Due.isFalse("power is there", x.out());
            storeIs("power again", x, packets, writes == 4 ? 20 : 23, packets, 2 + writes);
            Lander.give(x, Lander.hail(0));
            expedite(x, Lander.packet(6, 7));
            Due.equal("its number", x.packet(packets, 0), packets);
            Due.equal("its block", x.packet(packets, 3), writes == 4 ? 4 : 1);
        }
    }

    private static void failAmidAFrame() {
        Craft x = Lander.hailed();
        x.fail(3);
        Lander.give(x, Lander.sequenced(0, Lander.join(Lander.packet(2, 7), Lander.packet(3, 7))));
        storeIs("the first stands", x, 1, 23, 1, 3);
        Due.equal("power()", x.power(), 1);
        Due.equal("report", x.report(), 0);
        Due.equal("APID", x.packet(0, 2), 2);
        Due.equal("content", x.content(0, 6), Lander.packet(2, 7)[6]);
        Craft y = Lander.hailed();
        y.fail(5);
        Lander.give(y, Lander.sequenced(0, Lander.join(Lander.packet(2, 7), Lander.packet(3, 7))));
        Due.isFalse("one write is left", y.out());
        y.send(1);
        Due.isTrue("used by a drop", y.out());
        storeIs("dropped", y, 1, 23, 3, 5);
    }

    /** Two packets stay, of one block each; the journal is full, behind 61 writes. */
    private static Craft withFullJournal() {
        Craft x = Lander.hailed();
        expedite(x, Lander.packet(1, 7), Lander.packet(3, 7));
        for (int k = 0; k < 19; k++) {
            expedite(x, Lander.packet(2, 7));
            x.send(0);
        }
        storeIs("full journal", x, 2, 22, 40, 4 + 19 * 3);
        return x;
    }

    private static void failAtJournalRenewal() {
        Craft x = withFullJournal();
        expedite(x, Lander.packet(2, 7));
        storeIs("block, journal, entry", x, 3, 21, 3, 61 + 3);
        int[] entries = {40, 2, 3};
        for (int writes = 1; writes <= 3; writes++) {
            Craft y = withFullJournal();
            y.fail(writes);
            expedite(y, Lander.packet(2, 7));
            Due.isTrue("out behind " + writes, y.out());
            int packets = writes == 3 ? 3 : 2;
            storeIs("behind " + writes, y, packets, 24 - packets, entries[writes - 1], 61 + writes);
            Due.equal("power()", y.power(), packets);
            Due.equal("the first is still there", y.packet(0, 2), 1);
            Due.equal("the second is still there", y.packet(1, 2), 3);
        }
    }

    private static void failAtRenewalBeforeADrop() {
        Craft x = withFullJournal();
        x.send(1);
        storeIs("journal, two entries", x, 0, 24, 4, 61 + 3);
        Craft y = withFullJournal();
        y.fail(1);
        Due.equal("sent", y.send(1), 0);
        storeIs("only the journal", y, 2, 22, 2, 61 + 1);
        Due.isTrue("out", y.out());
        Due.equal("power()", y.power(), 2);
        Due.equal("count goes on", y.send(1), 1);
        storeIs("both dropped now", y, 0, 24, 4, 61 + 3);
    }

    private static void journalIsRenewedOnlyWhenNeeded() {
        Craft x = Lander.hailed();
        for (int k = 0; k < 24; k++) {
            expedite(x, Lander.packet(2 * k + 1, 20));
        }
        for (int k = 0; k < 30 && x.store(2) < 40; k++) {
            x.send(1);
        }
        storeIs("sixteen dropped", x, 8, 16, 40, 64);
        x.send(0);
        storeIs("an empty frame writes nothing", x, 8, 16, 40, 64);
        expedite(x, Lander.packet(2, 41));
        storeIs("three blocks, journal, entry", x, 9, 13, 9, 64 + 5);
        Due.equal("in their order, first", x.packet(0, 0), 16);
        Due.equal("in their order, last", x.packet(8, 0), 24);
    }

    private static void numbersAreNeverUsedAgain() {
        Craft x = Lander.hailed();
        for (int k = 0; k < 50; k++) {
            expedite(x, Lander.packet(2, 7));
            Due.equal("number", x.packet(0, 0), k);
            x.send(0);
            if (k % 9 == 0) {
                Due.equal("power() with an empty store", x.power(), 0);
                Lander.give(x, Lander.hail(0));
            }
        }
    }

    private static void failIsSetAnew() {
        Craft x = Lander.hailed();
        x.fail(1);
        x.fail(3);
        expedite(x, Lander.packet(2, 7));
        Due.isFalse("two writes of three", x.out());
        x.fail(100);
        for (int k = 0; k < 40 && !x.out(); k++) {
            Due.isTrue("out at the hundredth write only", x.store(3) < 102);
            x.send(0);
            if (!x.out()) {
                expedite(x, Lander.packet(2, 7));
            }
        }
        Due.isTrue("out at last", x.out());
        Due.equal("behind just 102", x.store(3), 102);
    }

    private static void framesLostWhenPowerFails() {
        Craft x = Lander.hailed();
        int[] inner = Lander.join(Lander.sequenced(0, Lander.packet(2, 7)), Lander.sequenced(1, Lander.packet(4, 7)));
        int[] bad = Lander.frame(0, 0, 0, inner);
        bad[bad.length - 1] ^= 1;
        Lander.giveOneByOne(x, Lander.part(bad, 0, bad.length - 1));
        x.fail(1);
        int word = bad[bad.length - 1] << 24 | 250 << 16 | 243 << 8 | 32;
        Due.equal("the frame where power fails is taken, not the next", x.receive(word, 4), 1);
        Due.isTrue("out", x.out());
        x.power();
        int[] hail = Lander.hail(0);
        Lander.give(x, Lander.part(hail, 3, hail.length));
        Due.equal("bytes behind it are lost", x.report(), 0);
        Due.equal("and a whole frame", Lander.give(x, hail), 1);
        Due.equal("is taken", x.report(), 0x8000);
        Craft y = new Craft();
        Lander.give(y, Lander.part(hail, 0, 9));
        y.power();
        Lander.give(y, Lander.part(hail, 9, hail.length));
        Due.equal("bytes that waited are forgotten", y.report(), 0);
    }

    private static void powerThatWasNotGone() {
        Craft x = Lander.hailed();
        expedite(x, Lander.packet(2, 50));
        x.send(0);
        Due.equal("emitted", x.packet(0, 4), 22);
        x.fail(1);
        Due.equal("power()", x.power(), 1);
        Due.equal("emitted is forgotten", x.packet(0, 4), 0);
        Due.equal("the session is off", x.report(), 0);
        Lander.give(x, Lander.hail(0));
        expedite(x, Lander.packet(4, 50));
        Due.isFalse("it is not about to fail", x.out());
        Due.equal("packets", x.store(0), 2);
        x.send(0);
        Due.equal("from its first byte on", x.sent(7), 0);
    }

    private static void wrongCalls() {
        Craft x = Lander.hailed();
        Due.badArgument("fail(0)", () -> x.fail(0));
        Due.badArgument("fail(-1)", () -> x.fail(-1));
        Due.badArgument("fail(101)", () -> x.fail(101));
        Due.badArgument("store(-1)", () -> x.store(-1));
        Due.badArgument("store(4)", () -> x.store(4));
        Due.badIndex("packet(0, 0)", () -> x.packet(0, 0));
        Due.badIndex("packet(0, 5): the packet is looked at first", () -> x.packet(0, 5));
        expedite(x, Lander.packet(2, 27));
        Due.badArgument("packet(0, 5)", () -> x.packet(0, 5));
        Due.badArgument("packet(0, -1)", () -> x.packet(0, -1));
        Due.badIndex("packet(1, 0)", () -> x.packet(1, 0));
        Due.badIndex("packet(-1, 0)", () -> x.packet(-1, 0));
        x.send(0);
        x.fail(1);
        expedite(x, Lander.packet(2, 7));
        Due.isTrue("out", x.out());
        Due.unsupported("fail while out", () -> x.fail(1));
        Due.unsupported("fail while out, number wrong", () -> x.fail(0));
        Due.badArgument("store(4) while out", () -> x.store(4));
        Due.equal("packet while out", x.packet(0, 1), 27);
        Due.equal("emitted is forgotten only when power comes", x.packet(0, 4), 22);
        Due.equal("content while out", x.content(0, 1), 2);
        Due.badIndex("packet(1, 0) while out", () -> x.packet(1, 0));
    }
}
