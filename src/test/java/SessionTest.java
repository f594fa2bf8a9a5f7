/** Promises 5 and 6: directives, sequence control, and the report. */
public final class SessionTest {
    public static void main(String[] args) {
        hail();
        end();
        set();
        otherDirectives();
        dataWithoutSession();
        sequenceNumbers();
        sequenceWrapsRound();
        expeditedCount();
        withoutData();
        packetsInAFrame();
        noPackets();
        refusedForRoom();
        expeditedAsFarAsThereIsRoom();
        reportWhileOut();
        Due.end();
    }

    private static void hail() {
        for (int bits = 16; bits < 64; bits += bits == 28 ? 20 : 4) {
            Craft x = new Craft();
            Lander.give(x, Lander.frame(bits, 1, 200, 1, 255, 3));
            Due.equal("hail by a directive of any quality and form, bits " + bits, x.report(), 0x9000);
        }
        Craft x = Lander.hailed();
        Lander.give(x, Lander.sequenced(0));
        Lander.give(x, Lander.sequenced(9));
        Lander.give(x, Lander.expedited());
        Due.equal("report", x.report(), 0xA101);
        Lander.give(x, Lander.hail(0));
        Due.equal("hailed again", x.report(), 0x8000);
        Lander.give(x, Lander.set(0, 17));
        Lander.give(x, Lander.hail(1));
        Due.equal("hailed on the other channel", x.report(), 0x9000);
    }

    private static void end() {
        Craft x = Lander.hailed();
        Lander.give(x, Lander.end(1));
        Due.equal("ended, from any channel", x.report(), 0);
        Lander.give(x, Lander.sequenced(0, Lander.packet(1, 7)));
        Due.equal("no data then", x.store(0), 0);
        Lander.give(x, Lander.end(0));
        Due.equal("ended once more", x.report(), 0);
    }

    private static void set() {
        Craft x = Lander.hailed();
        Lander.give(x, Lander.sequenced(5));
        Due.equal("flag", x.report(), 0xA000);
        Lander.give(x, Lander.set(1, 200));
        Due.equal("set on another channel", x.report(), 0xA000);
        Lander.give(x, Lander.frame(16 | 32, 0, 0, 3, 255));
        Due.equal("set", x.report(), 0x80FF);
        Craft y = new Craft();
        Lander.give(y, Lander.set(0, 9));
        Due.equal("set while off", y.report(), 0);
        Lander.give(y, Lander.hail(0));
        Due.equal("is not remembered", y.report(), 0x8000);
    }

    private static void otherDirectives() {
        Craft x = Lander.hailed();
        Lander.give(x, Lander.sequenced(0));
        Lander.give(x, Lander.frame(16, 0, 0, 0, 0));
        Lander.give(x, Lander.frame(16, 0, 0, 4, 9));
        Lander.give(x, Lander.frame(16, 0, 0, 255, 1));
        Lander.give(x, Lander.frame(16, 0, 0, 2));
        Lander.give(x, Lander.frame(16, 0, 1));
        Lander.give(x, Lander.frame(16, 0, 0, 1));
        Due.equal("nothing from others, or from one byte", x.report(), 0x8001);
    }

    private static void dataWithoutSession() {
        Craft x = new Craft();
        Lander.give(x, Lander.sequenced(0, Lander.packet(1, 7)));
        Lander.give(x, Lander.expedited(Lander.packet(1, 7)));
        Due.equal("no session", x.store(0), 0);
        Lander.give(x, Lander.hail(1));
        Lander.give(x, Lander.sequenced(0, Lander.packet(1, 7)));
        Lander.give(x, Lander.sequenced(1));
        Lander.give(x, Lander.expedited(Lander.packet(1, 7)));
        Due.equal("another channel", x.store(0), 0);
        Due.equal("report", x.report(), 0x9000);
        Lander.give(x, Lander.frame(0, 1, 0, Lander.packet(1, 7)));
        Lander.give(x, Lander.frame(32, 1, 0, Lander.packet(1, 7)));
        Due.equal("this channel", x.store(0), 2);
        Due.equal("report", x.report(), 0x9101);
    }

    private static void sequenceNumbers() {
        for (int ahead = 0; ahead < 256; ahead++) {
            for (int v = 0; v < 256; v += 85) {
                Craft x = Lander.hailed();
                Lander.give(x, Lander.set(0, v));
                Lander.give(x, Lander.sequenced((v + ahead) % 256, Lander.packet(1, 7)));
                int want = 0x8000 + v + (ahead > 0 && ahead < 128 ? 0x2000 : 0);
                Due.equal(ahead + " above " + v, x.report(), ahead == 0 ? 0x8000 + (v + 1) % 256 : want);
                Due.equal(ahead + " above " + v + ", stored", x.store(0), ahead == 0 ? 1 : 0);
            }
        }
        Craft x = Lander.hailed();
        Lander.give(x, Lander.sequenced(1));
        Lander.give(x, Lander.sequenced(255));
        Due.equal("an old one leaves the flag", x.report(), 0xA000);
        Lander.give(x, Lander.sequenced(0));
        Due.equal("the right one clears it", x.report(), 0x8001);
    }

    private static void sequenceWrapsRound() {
        Craft x = Lander.hailed();
        Lander.give(x, Lander.set(0, 255));
        Lander.give(x, Lander.sequenced(255, Lander.packet(1, 7)));
        Due.equal("behind 255 comes 0", x.report(), 0x8000);
    }

    private static void expeditedCount() {
        Craft x = Lander.hailed();
        for (int k = 1; k <= 17; k++) {
            Lander.give(x, Lander.frame(32 | (k % 4) << 2, 0, k * 40 % 256));
            Due.equal(k + " expedited frames", x.report(), 0x8000 + k % 8 * 256);
        }
    }

    private static void withoutData() {
        for (int form = 0; form < 4; form++) {
            Craft x = Lander.hailed();
            Lander.give(x, Lander.frame(form << 2, 0, 0));
            Due.equal("V goes on without data, form " + form, x.report(), 0x8001);
            Lander.give(x, Lander.frame(form << 2, 0, 1, Lander.packet(1, 7)));
            Due.equal("stored, form " + form, x.store(0), form == 0 ? 1 : 0);
            Lander.give(x, Lander.frame(32 | form << 2, 0, 1, Lander.packet(1, 7)));
            Due.equal("stored, expedited, form " + form, x.store(0), form == 0 ? 2 : 0);
            Due.equal("report, form " + form, x.report(), 0x8102);
        }
    }

    private static void packetsInAFrame() {
        Craft x = Lander.hailed();
        int[] eight = new int[0];
        for (int k = 0; k < 8; k++) {
            eight = Lander.join(eight, Lander.packet(k * 256 + k, 7));
        }
        Lander.give(x, Lander.sequenced(0, Lander.join(eight, Lander.row(8, 0, 0))));
        Due.equal("eight packets, three bytes more", x.store(0), 8);
        for (int k = 0; k < 8; k++) {
            Due.equal("APID of " + k, x.packet(k, 2), k * 257);
        }
        Lander.give(x, Lander.expedited(Lander.packet(2047, 59)));
        Due.equal("one of 59 bytes", x.packet(8, 1), 59);
        Due.equal("its APID", x.packet(8, 2), 2047);
        Lander.give(x, Lander.expedited(Lander.join(Lander.packet(9, 25), Lander.packet(10, 34))));
        Due.equal("two that end with the frame", x.store(0), 11);
    }

    private static void noPackets() {
        int[] good = Lander.packet(3, 10);
        int[] low = Lander.packet(3, 10);
        low[0] = 7;
        int[] high = Lander.packet(3, 10);
        high[0] = 16;
        int[] longer = Lander.packet(3, 10);
        longer[5] = 4;
        int[] far = Lander.packet(3, 10);
        far[4] = 1;
        int[][] bad = {low, high, longer, far, Lander.part(good, 0, 6), Lander.part(good, 0, 9), Lander.row(8)};
        for (int k = 0; k < bad.length; k++) {
            Craft x = Lander.hailed();
            Lander.give(x, Lander.sequenced(0, bad[k]));
            Due.equal("no packet, " + k, x.store(0), 0);
            Due.equal("V goes on, " + k, x.report(), 0x8001);
            Lander.give(x, Lander.sequenced(1, Lander.join(good, bad[k])));
            Due.equal("one before it, " + k, x.store(0), 1);
            Due.equal("V goes on, " + k, x.report(), 0x8002);
            Due.equal("no write for what counts for nothing", x.store(3), 2);
        }
        Craft x = Lander.hailed();
        Lander.give(x, Lander.expedited(Lander.join(good, low, good)));
        Due.equal("from the first that is none on nothing counts", x.store(0), 1);
    }

    private static Craft withFree(int blocks) {
        Craft x = Lander.hailed();
        for (int k = 0; k < 24 - blocks; k++) {
            Lander.give(x, Lander.sequenced(k, Lander.packet(2 * k, 20)));
        }
        Due.equal("free blocks", x.store(1), blocks);
        return x;
    }

    private static void refusedForRoom() {
        int[] three = Lander.join(Lander.packet(1, 20), Lander.packet(3, 21));
        Craft x = withFree(2);
        int writes = x.store(3);
        Lander.give(x, Lander.sequenced(22, three));
        Due.equal("refused whole", x.store(0), 22);
        Due.equal("flag, same V", x.report(), 0xA000 + 22);
        Due.equal("nothing is written", x.store(3), writes);
        Lander.give(x, Lander.sequenced(22, Lander.packet(1, 40)));
        Due.equal("a packet that just fits", x.store(1), 0);
        Due.equal("the flag is cleared", x.report(), 0x8000 + 23);
        Lander.give(x, Lander.sequenced(23));
        Due.equal("no packets need no room", x.report(), 0x8000 + 24);
        Lander.give(x, Lander.sequenced(24, Lander.packet(1, 7)));
        Due.equal("full", x.report(), 0xA000 + 24);
        Lander.give(x, Lander.sequenced(23, Lander.packet(1, 7)));
        Due.equal("old", x.report(), 0xA000 + 24);
        x.send(0);
        Due.equal("one was sent", x.store(1), 1);
        Lander.give(x, Lander.sequenced(24, Lander.packet(1, 7)));
        Due.equal("then there is room", x.report(), 0x8000 + 25);
        Craft y = withFree(3);
        Lander.give(y, Lander.sequenced(21, three));
        Due.equal("as many free blocks as are needed", y.store(0), 23);
    }

    private static void expeditedAsFarAsThereIsRoom() {
        Craft x = withFree(2);
        Lander.give(x, Lander.expedited(Lander.join(Lander.packet(1, 20), Lander.packet(3, 21))));
        Due.equal("the first only", x.store(0), 23);
        Due.equal("it counts, and makes no flag", x.report(), 0x8100 + 22);
        Lander.give(x, Lander.expedited(Lander.join(Lander.packet(5, 21), Lander.packet(7, 20))));
        Due.equal("room is asked for the one at hand", x.store(0), 24);
        Due.equal("which is the second", x.packet(23, 2), 7);
        Lander.give(x, Lander.expedited(Lander.packet(9, 7)));
        Due.equal("none", x.store(0), 24);
        Due.equal("counted all the same", x.report(), 0x8300 + 22);
    }

    private static void reportWhileOut() {
        Craft x = Lander.hailed();
        x.fail(1);
        Lander.give(x, Lander.sequenced(0, Lander.packet(1, 7)));
        Due.unsupported("report() while out", x::report);
        x.power();
        Due.equal("off when power comes", x.report(), 0);
        x.window(0, 0, 1, 0);
        Due.equal("not seen", x.report(), 0);
    }
}
