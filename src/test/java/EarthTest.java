/** Promises 7 and 8: send and sent. */
public final class EarthTest {
    public static void main(String[] args) {
        noFrameYet();
        emptyFrames();
        onePacket();
        pointers();
        channelsAreApart();
        droppedBehindTheFrame();
        countsGoOn();
        powerFailsAtADrop();
        wrongCalls();
        Due.end();
    }

    private static void noFrameYet() {
        Craft x = new Craft();
        Due.badIndex("sent(0) before any frame", () -> x.sent(0));
        x.send(1);
        Due.badIndex("sent(-1)", () -> x.sent(-1));
        Due.badIndex("sent(32)", () -> x.sent(32));
        Due.badIndex("sent of the least int", () -> x.sent(Integer.MIN_VALUE));
    }

    /** All 32 bytes, told by channel, count, pointer and the zone's beginning; the rest is fill. */
    private static void frameIs(String what, Craft x, int channel, int count, int pointer, int... zone) {
        int[] want = new int[32];
        want[0] = 83;
        want[1] = 64 + channel;
        want[2] = count >> 16;
        want[3] = count >> 8 & 255;
        want[4] = count & 255;
        want[6] = pointer >> 8;
        want[7] = pointer & 255;
        for (int k = 0; k < 22; k++) {
            want[8 + k] = k < zone.length ? zone[k] : 85;
        }
        int check = checkOf(want);
        want[30] = check >> 8;
        want[31] = check & 255;
        for (int i = 0; i < 32; i++) {
            Due.equal(what + ": sent(" + i + ")", x.sent(i), want[i]);
        }
    }

    /** By a byte at a time: another way than the orbiter's. */
    static int checkOf(int... frame) {
        int row = 65535;
        for (int i = 0; i < 30; i++) {
            int t = (row >> 8 ^ frame[i]) & 255;
            t ^= t >> 4;
            row = (row << 8 ^ t << 12 ^ t << 5 ^ t) & 65535;
        }
        return row;
    }

    private static void emptyFrames() {
        Craft x = new Craft();
        Due.equal("first count", x.send(0), 0);
        frameIs("empty", x, 0, 0, 2046);
        Due.equal("its check, as it was told, 30", x.sent(30), 51);
        Due.equal("its check, as it was told, 31", x.sent(31), 14);
        Due.equal("second count", x.send(0), 1);
        frameIs("empty again", x, 0, 1, 2046);
        Due.equal("the other channel's count", x.send(1), 0);
        frameIs("empty, channel 1", x, 1, 0, 2046);
        Due.equal("no write", x.store(3), 0);
    }

    private static void onePacket() {
        int[] p = Lander.packet(1000, 50);
        Craft x = Lander.hailed();
        Lander.give(x, Lander.expedited(p));
        x.send(0);
        frameIs("its beginning", x, 0, 0, 0, Lander.part(p, 0, 22));
        Due.equal("emitted", x.packet(0, 4), 22);
        x.send(0);
        frameIs("its middle", x, 0, 1, 2047, Lander.part(p, 22, 44));
        Due.equal("emitted", x.packet(0, 4), 44);
        Due.equal("still there", x.store(0), 1);
        x.send(0);
        frameIs("its end, with fill", x, 0, 2, 2047, Lander.part(p, 44, 50));
        Due.equal("dropped", x.store(0), 0);
        x.send(0);
        frameIs("nothing more", x, 0, 3, 2046);
    }

    private static void pointers() {
        int[] a = Lander.packet(2, 30);
        int[] b = Lander.packet(4, 7);
        int[] c = Lander.packet(6, 36);
        int[] d = Lander.packet(8, 22);
        Craft x = Lander.hailed();
        Lander.give(x, Lander.expedited(Lander.join(a, b)));
        Lander.give(x, Lander.expedited(Lander.join(c, d)));
        int[] all = Lander.join(a, b, c, d);
        x.send(0);
        frameIs("a begins", x, 0, 0, 0, Lander.part(all, 0, 22));
        x.send(0);
        frameIs("a ends, b is the first to begin, c begins", x, 0, 1, 8, Lander.part(all, 22, 44));
        Due.equal("a and b are dropped", x.packet(0, 0), 2);
        x.send(0);
        frameIs("c goes on", x, 0, 2, 2047, Lander.part(all, 44, 66));
        x.send(0);
        frameIs("c ends, d begins", x, 0, 3, 7, Lander.part(all, 66, 88));
        x.send(0);
        frameIs("d ends", x, 0, 4, 2047, Lander.part(all, 88, 95));
        atTheZonesEdges(d);
    }

    private static void atTheZonesEdges(int... d) {
        Craft x = Lander.hailed();
        Lander.give(x, Lander.expedited(Lander.join(d, Lander.packet(4, 21))));
        x.send(0);
        frameIs("just a zone", x, 0, 0, 0, d);
        Due.equal("dropped at once", x.store(0), 1);
        Due.equal("nothing emitted of the next", x.packet(0, 4), 0);
        Lander.give(x, Lander.expedited(d));
        x.send(0);
        frameIs("the last byte of a zone", x, 0, 1, 0, Lander.join(Lander.packet(4, 21), Lander.part(d, 0, 1)));
        x.send(0);
        frameIs("just the rest", x, 0, 2, 2047, Lander.part(d, 1, 22));
        Lander.give(x, Lander.expedited(Lander.join(Lander.packet(10, 43), Lander.packet(12, 7))));
        x.send(0);
        x.send(0);
        int[] rest = Lander.part(Lander.packet(10, 43), 22, 43);
        frameIs("one begins at 21", x, 0, 4, 21, Lander.join(rest, Lander.row(8)));
    }

    private static void channelsAreApart() {
        int[] even = Lander.packet(2046, 25);
        int[] odd = Lander.packet(2047, 25);
        Craft x = Lander.hailed();
        Lander.give(x, Lander.expedited(Lander.join(odd, even)));
        Lander.give(x, Lander.expedited(Lander.join(even, odd)));
        x.send(0);
        frameIs("even", x, 0, 0, 0, Lander.part(even, 0, 22));
        x.send(1);
        frameIs("odd", x, 1, 0, 0, Lander.part(odd, 0, 22));
        x.send(1);
        frameIs("odd goes on", x, 1, 1, 3, Lander.join(Lander.part(odd, 22, 25), Lander.part(odd, 0, 19)));
        Due.equal("numbers left: 1", x.packet(0, 0), 1);
        Due.equal("its emitted", x.packet(0, 4), 22);
        Due.equal("numbers left: 2", x.packet(1, 0), 2);
        Due.equal("its emitted", x.packet(1, 4), 0);
        Due.equal("numbers left: 3", x.packet(2, 0), 3);
        Due.equal("its emitted", x.packet(2, 4), 19);
        x.send(0);
        frameIs("even goes on", x, 0, 1, 3, Lander.join(Lander.part(even, 22, 25), Lander.part(even, 0, 19)));
    }

    private static void droppedBehindTheFrame() {
        Craft x = Lander.hailed();
        int[] p = Lander.packet(2, 7);
        Lander.give(x, Lander.expedited(Lander.join(p, p, p, p)));
        Due.equal("writes", x.store(3), 8);
        x.send(0);
        frameIs("three and a byte", x, 0, 0, 0, Lander.join(p, p, p, Lander.part(p, 0, 1)));
        Due.equal("three dropped", x.store(0), 1);
        Due.equal("a write each", x.store(3), 11);
        Due.equal("an entry each", x.store(2), 7);
        Due.equal("free blocks", x.store(1), 23);
    }

    private static void countsGoOn() {
        Craft x = new Craft();
        for (int k = 0; k < 300; k++) {
            Due.equal("count", x.send(1), k);
        }
        frameIs("count above a byte", x, 1, 299, 2046);
        x.power();
        frameIs("the latest frame stays", x, 1, 299, 2046);
        Due.equal("counts outlive power", x.send(1), 300);
        Due.equal("the other channel", x.send(0), 0);
    }

    private static void powerFailsAtADrop() {
        Craft x = Lander.hailed();
        int[] p = Lander.packet(2, 7);
        Lander.give(x, Lander.expedited(Lander.join(p, p, p, p)));
        x.fail(2);
        Due.equal("sent all the same", x.send(0), 0);
        Due.isTrue("out", x.out());
        frameIs("it can be read", x, 0, 0, 0, Lander.join(p, p, p, Lander.part(p, 0, 1)));
        Due.equal("two were dropped", x.store(0), 2);
        Due.equal("the third stays", x.packet(0, 0), 2);
        Due.unsupported("send while out", () -> x.send(0));
        Due.equal("power()", x.power(), 2);
        Due.equal("what was emitted is forgotten, 0", x.packet(0, 4), 0);
        Due.equal("what was emitted is forgotten, 1", x.packet(1, 4), 0);
        Due.equal("the next count", x.send(0), 1);
        frameIs("both anew", x, 0, 1, 0, Lander.join(p, p));
        Due.equal("all dropped", x.store(0), 0);
    }

    private static void wrongCalls() {
        Craft x = Lander.hailed();
        x.window(1, 0, 2, 1);
        Due.badArgument("send(2)", () -> x.send(2));
        Due.badArgument("send(-1)", () -> x.send(-1));
        x.minute(1);
        Due.badState("Earth is not seen", () -> x.send(0));
        Due.badArgument("the channel is looked at first", () -> x.send(2));
        Due.badIndex("nothing was sent", () -> x.sent(0));
        x.minute(1);
        Due.equal("refused ones do not count", x.send(0), 0);
        x.window(0, 0, 1, 0);
        Due.equal("the lander need not be seen", x.send(0), 1);
        x.window(0, 0, 1, 1);
        x.fail(1);
        Lander.give(x, Lander.sequenced(0, Lander.packet(2, 7)));
        x.minute(1);
        Due.unsupported("out is looked at first", () -> x.send(2));
        Due.unsupported("out is looked at before Earth", () -> x.send(0));
    }
}
