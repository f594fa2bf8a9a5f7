/** Terms: the store, its blocks and its journal. */
public final class StoreSentencesTest {
    public static void main(String[] args) {
        Sentence.in("Terms");
        Sentence.says("THE STORE has 24 BLOCKS", StoreSentencesTest::has24Blocks);
        Sentence.says("each for 20 bytes of a packet", StoreSentencesTest::eachFor20Bytes);
        Sentence.says("a JOURNAL of 40 ENTRIES", StoreSentencesTest::aJournalOf40);
        Sentence.says("To store a packet its blocks are WRITTEN, one by one", StoreSentencesTest::blocksAreWritten);
        Sentence.says("the free ones with the least numbers", StoreSentencesTest::theLeastNumbers);
        Sentence.says("then an entry: ADDED, with a number", StoreSentencesTest::thenAnEntry);
        Sentence.says("(one more than the greatest one that was ever added; the first is 0)",
            StoreSentencesTest::oneMoreThanTheGreatest);
        Sentence.says("To drop one: an entry DROPPED with its number.", StoreSentencesTest::toDropOne);
        Sentence.says("If the journal is full it is first written anew", StoreSentencesTest::firstWrittenAnew);
        Sentence.says("one write for all", StoreSentencesTest::oneWriteForAll);
        Sentence.says("an entry ADDED for each packet that is there, in their order", StoreSentencesTest::inTheirOrder);
        Sentence.says("There is ROOM for packets if there are as many free blocks", StoreSentencesTest::roomForPackets);
        Sentence.says("those of one frame are stored one after the other, when there is room for all",
            StoreSentencesTest::whenThereIsRoomForAll);
        Sentence.says("(expedited: for the one at hand)", StoreSentencesTest::forTheOneAtHand);
        Due.end();
    }

    private static void storeIs(String what, Craft x, int packets, int free, int entries, int writes) {
        String got = x.store(0) + " packets, " + x.store(1) + " free, " + x.store(2) + " entries, " + x.store(3) + " writes";
        Due.same(what, got, packets + " packets, " + free + " free, " + entries + " entries, " + writes + " writes");
    }

    /** A full journal of as many packets as are left and others that were added and dropped; APID 2. */
    private static Craft withFullJournal(int left) {
        Craft x = Lander.hailed();
        Lander.fill(x, 2, (40 - left) / 2);
        for (int bytes = 7 * (40 - left) / 2; bytes > 0; bytes -= 22) {
            x.send(0);
        }
        Lander.fill(x, 2, left);
        storeIs("a full journal, " + left + " left", x, left, 24 - left, 40, 60 + left / 2);
        return x;
    }

    private static void has24Blocks() {
        Craft x = Lander.hailed();
        storeIs("empty", x, 0, 24, 0, 0);
        Lander.fill(x, 2, 23);
        storeIs("one block is free", x, 23, 1, 23, 46);
        Lander.fill(x, 2, 1);
        storeIs("full", x, 24, 0, 24, 48);
        Due.equal("the last one's block", x.packet(23, 3), 23);
        Lander.fill(x, 2, 1);
        storeIs("one more has no room", x, 24, 0, 24, 48);
        Lander.give(x, Lander.sequenced(0, Lander.packet(2, 7)));
        storeIs("nor has a sequenced one", x, 24, 0, 24, 48);
    }

    private static void eachFor20Bytes() {
        for (int length : new int[] {7, 19, 20, 21, 39, 40, 41, 59, 60}) {
            int blocks = length <= 20 ? 1 : length <= 40 ? 2 : 3;
            Craft x = Lander.hailed();
            int[] packet = Lander.packet(2, length);
            Lander.giveInTwo(x, packet);
            storeIs("one of " + length, x, 1, 24 - blocks, 1, blocks + 1);
            for (int k = 0; k < length; k++) {
                Due.equal("byte " + k + " of " + length, x.content(0, k), packet[k]);
            }
        }
        Craft late = Lander.hailed();
        Lander.give(late, Lander.expedited(Lander.join(Lander.packet(2, 38), Lander.packet(4, 21))));
        storeIs("one of 21 at the end of the greatest data", late, 2, 20, 2, 6);
        Due.equal("its last byte, alone in a block", late.content(1, 20), Lander.packet(4, 21)[20]);
        Craft x = Lander.hailed();
        for (int k = 0; k < 8; k++) {
            Lander.giveInTwo(x, Lander.packet(2 * k, 60));
        }
        storeIs("eight of 60 fill it", x, 8, 0, 8, 32);
        for (int k = 0; k < 8; k++) {
            Due.equal("first block of " + k, x.packet(k, 3), 3 * k);
            Due.equal("last byte of " + k, x.content(k, 59), Lander.packet(2 * k, 60)[59]);
        }
    }

    private static void aJournalOf40() {
        Craft x = Lander.hailed();
        Lander.fill(x, 2, 19);
        for (int k = 0; k < 7; k++) {
            x.send(0);
        }
        storeIs("38 entries", x, 0, 24, 38, 57);
        Lander.fill(x, 2, 1);
        storeIs("39 entries", x, 1, 23, 39, 59);
        Lander.fill(x, 2, 1);
        storeIs("40 entries", x, 2, 22, 40, 61);
        Lander.fill(x, 2, 1);
        storeIs("no 41st: two entries and one more", x, 3, 21, 3, 64);
    }

    private static void blocksAreWritten() {
        Craft x = Lander.hailed();
        Lander.fill(x, 3, 1);
        for (int writes = 1; writes <= 3; writes++) {
            x.fail(writes);
            Lander.giveInTwo(x, Lander.packet(2, 60));
            storeIs("behind " + writes + " of three blocks", x, 1, 23, 1, 2 + writes * (writes + 1) / 2);
            x.power();
            Lander.give(x, Lander.hail(0));
        }
        Lander.giveInTwo(x, Lander.packet(2, 60));
        storeIs("three blocks and an entry", x, 2, 20, 2, 12);
    }

    private static void theLeastNumbers() {
        Craft x = Lander.hailed();
        Lander.give(x, Lander.expedited(Lander.join(
            Lander.packet(2, 7), Lander.packet(3, 7), Lander.packet(4, 7), Lander.packet(5, 7), Lander.packet(6, 7))));
        for (int k = 0; k < 5; k++) {
            Due.equal("first block of " + k, x.packet(k, 3), k);
        }
        x.send(0);
        Due.equal("0, 2 and 4 are dropped", x.store(0), 2);
        int[] three = Lander.packet(8, 60);
        Lander.giveInTwo(x, three);
        Due.equal("its first block", x.packet(2, 3), 0);
        Lander.fill(x, 10, 1);
        Due.equal("it had 0, 2 and 4: the next has 5", x.packet(3, 3), 5);
        for (int k = 0; k < 60; k++) {
            Due.equal("byte " + k + " over three blocks", x.content(2, k), three[k]);
        }
        for (int k = 0; k < 7; k++) {
            Due.equal("byte " + k + " of the one between them", x.content(0, k), Lander.packet(3, 7)[k]);
        }
    }

    private static void thenAnEntry() {
        Craft x = Lander.hailed();
        x.fail(2);
        Lander.give(x, Lander.expedited(Lander.packet(2, 21)));
        storeIs("both blocks, and no entry", x, 0, 24, 0, 2);
        Due.equal("power()", x.power(), 0);
        Lander.give(x, Lander.hail(0));
        Lander.give(x, Lander.expedited(Lander.packet(4, 21)));
        storeIs("with its entry", x, 1, 22, 1, 5);
        Due.equal("its number", x.packet(0, 0), 0);
    }

    private static void oneMoreThanTheGreatest() {
        Craft x = Lander.hailed();
        Lander.fill(x, 2, 1);
        Due.equal("the first", x.packet(0, 0), 0);
        x.send(0);
        Lander.fill(x, 2, 1);
        Due.equal("the first is dropped", x.packet(0, 0), 1);
        x.fail(1);
        Lander.fill(x, 2, 1);
        x.power();
        Lander.give(x, Lander.hail(0));
        Lander.fill(x, 2, 1);
        Due.equal("one without an entry was not added", x.packet(1, 0), 2);
        x.fail(2);
        Lander.fill(x, 2, 1);
        x.power();
        Lander.give(x, Lander.hail(0));
        Lander.fill(x, 2, 1);
        Due.equal("power failed at an entry: it was", x.packet(3, 0), 4);
        Craft y = withFullJournal(0);
        Lander.fill(y, 2, 1);
        Due.equal("the journal has forgotten all of them", y.packet(0, 0), 20);
        y.send(0);
        y.power();
        Lander.give(y, Lander.hail(0));
        Lander.fill(y, 2, 1);
        Due.equal("power came again", y.packet(0, 0), 21);
        Craft z = withFullJournal(0);
        z.fail(2);
        Lander.fill(z, 2, 1);
        storeIs("an empty journal, and power is gone", z, 0, 24, 0, 62);
        z.power();
        Lander.give(z, Lander.hail(0));
        Lander.fill(z, 2, 1);
        Due.equal("behind an empty journal", z.packet(0, 0), 20);
    }

    private static void toDropOne() {
        Craft x = Lander.hailed();
        Lander.give(x, Lander.expedited(Lander.join(Lander.packet(3, 7), Lander.packet(2, 7), Lander.packet(5, 7))));
        storeIs("three", x, 3, 21, 3, 6);
        x.send(0);
        storeIs("an entry, a write", x, 2, 22, 4, 7);
        Due.equal("the one with its number is gone: before it", x.packet(0, 0), 0);
        Due.equal("the one with its number is gone: behind it", x.packet(1, 0), 2);
        Due.equal("power()", x.power(), 2);
        Due.equal("so the journal says: before it", x.packet(0, 0), 0);
        Due.equal("so the journal says: behind it", x.packet(1, 0), 2);
        x.send(1);
        storeIs("the last ones", x, 0, 24, 6, 9);
    }

    private static void firstWrittenAnew() {
        Craft added = withFullJournal(8);
        Lander.fill(added, 3, 1);
        storeIs("ADDED: eight entries and its own", added, 9, 15, 9, 64 + 3);
        Craft dropped = withFullJournal(8);
        dropped.send(0);
        storeIs("DROPPED: eight entries, and three", dropped, 5, 19, 11, 64 + 4);
        Craft idle = withFullJournal(24);
        Lander.fill(idle, 2, 1);
        Lander.give(idle, Lander.sequenced(0, Lander.packet(2, 7)));
        idle.send(1);
        storeIs("neither: it stays", idle, 24, 0, 40, 72);
        Craft full = withFullJournal(24);
        full.send(0);
        storeIs("of a full store: 24 entries, and three", full, 21, 3, 27, 72 + 4);
        Craft empty = withFullJournal(0);
        Lander.fill(empty, 2, 1);
        storeIs("of an empty store: no entry, and one", empty, 1, 23, 1, 60 + 3);
    }

    private static void oneWriteForAll() {
        Craft full = withFullJournal(24);
        full.fail(1);
        full.send(0);
        storeIs("24 entries by one write", full, 24, 0, 24, 72 + 1);
        Due.isTrue("out", full.out());
        Craft empty = withFullJournal(0);
        empty.fail(2);
        Lander.fill(empty, 2, 1);
        storeIs("a block, and no entry by one write", empty, 0, 24, 0, 60 + 2);
        Due.isTrue("out", empty.out());
    }

    private static void inTheirOrder() {
        Craft x = Lander.hailed();
        Lander.fill(x, 3, 8);
        Lander.fill(x, 2, 16);
        for (int k = 0; k < 6; k++) {
            x.send(0);
        }
        storeIs("a full journal", x, 8, 16, 40, 64);
        Lander.give(x, Lander.expedited(Lander.join(Lander.packet(4, 7), Lander.packet(6, 7))));
        storeIs("ten entries", x, 10, 14, 10, 69);
        Due.equal("power()", x.power(), 10);
        for (int i = 0; i < 8; i++) {
            Due.equal("number of " + i, x.packet(i, 0), i);
            Due.equal("APID of " + i, x.packet(i, 2), 3);
            Due.equal("first block of " + i, x.packet(i, 3), i);
        }
        Due.equal("the first that was added behind", x.packet(8, 0), 24);
        Due.equal("the second", x.packet(9, 0), 25);
        Due.equal("its APID", x.packet(9, 2), 6);
    }

    private static void roomForPackets() {
        for (int free = 0; free <= 4; free++) {
            for (int length : new int[] {20, 21, 40, 41, 58}) {
                int blocks = (length + 19) / 20;
                for (int quality = 0; quality <= 32; quality += 32) {
                    Craft x = Lander.hailed();
                    Lander.fill(x, 3, 24 - free);
                    Lander.give(x, Lander.frame(quality, 0, 0, Lander.packet(2, length)));
                    int want = blocks <= free ? 25 - free : 24 - free;
                    Due.equal(length + " bytes for " + free + " blocks", x.store(0), want);
                }
            }
        }
        Craft x = Lander.hailed();
        Lander.fill(x, 2, 24);
        x.send(0);
        Lander.give(x, Lander.sequenced(0, Lander.packet(4, 59)));
        Due.equal("dropped ones make room", x.store(0), 22);
        Due.equal("all of it", x.store(1), 0);
    }

    private static void whenThereIsRoomForAll() {
        int[] two = Lander.join(Lander.packet(2, 20), Lander.packet(4, 21));
        for (int free = 1; free <= 4; free++) {
            Craft x = Lander.hailed();
            Lander.fill(x, 3, 24 - free);
            int writes = x.store(3);
            Lander.give(x, Lander.sequenced(0, two));
            boolean fits = free >= 3;
            Due.equal("packets with " + free, x.store(0), 24 - free + (fits ? 2 : 0));
            Due.equal("writes with " + free, x.store(3), writes + (fits ? 5 : 0));
            Due.equal("the flag with " + free, x.report() >> 13 & 1, fits ? 0 : 1);
            if (fits) {
                Due.equal("the first of them", x.packet(24 - free, 2), 2);
                Due.equal("the second", x.packet(25 - free, 2), 4);
            }
        }
    }

    private static void forTheOneAtHand() {
        int[] two = Lander.join(Lander.packet(2, 20), Lander.packet(4, 21));
        int[] want = {0, 1, 1, 2, 2};
        for (int free = 0; free <= 4; free++) {
            Craft x = Lander.hailed();
            Lander.fill(x, 3, 24 - free);
            Lander.give(x, Lander.expedited(two));
            Due.equal("packets with " + free, x.store(0), 24 - free + want[free]);
            Due.equal("no flag with " + free, x.report() >> 13 & 1, 0);
        }
        Craft x = Lander.hailed();
        Lander.fill(x, 3, 22);
        Lander.give(x, Lander.expedited(Lander.join(Lander.packet(6, 41), Lander.packet(8, 7), Lander.packet(10, 11))));
        Due.equal("the one at hand is the second, then the third", x.store(0), 24);
        Due.equal("the second", x.packet(22, 2), 8);
        Due.equal("the third", x.packet(23, 2), 10);
    }
}
