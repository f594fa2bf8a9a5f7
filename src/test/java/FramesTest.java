/** Promise 5: how frames are found in the row of bytes that receive takes. */
public final class FramesTest {
    public static void main(String[] args) {
        bytesOfAWord();
        oneByOneAndInWords();
        noiseAround();
        wrongFirstBits();
        lengths();
        wrongChecks();
        framesInsideOfNone();
        marksThatOverlap();
        takenWhileNotSeen();
        otherSpacecraft();
        wrongCalls();
        Due.end();
    }

    private static void bytesOfAWord() {
        Craft x = new Craft();
        int[] b = Lander.hail(1);
        Due.equal("frame of 7 has 14 bytes", b.length, 14);
        x.receive(0x55AA0000 | b[0] << 8 | b[1], 2);
        x.receive(0x77000000 | b[2] << 16 | b[3] << 8 | b[4], 3);
        x.receive(b[5] << 24 | b[6] << 16 | b[7] << 8 | b[8], 4);
        x.receive(0x01020300 | b[9], 1);
        x.receive(b[10] << 16 | b[11] << 8 | b[12], 3);
        Due.equal("the last byte takes the frame", x.receive(-256 | b[13], 1), 1);
        Due.equal("hailed on channel 1", x.report(), 0x9000);
    }

    private static void oneByOneAndInWords() {
        int[] two = Lander.join(Lander.hail(0), Lander.sequenced(0, Lander.packet(5, 9)));
        Craft x = new Craft();
        Due.equal("two frames one by one", Lander.giveOneByOne(x, two), 2);
        Due.equal("their report", x.report(), 0x8001);
        Craft y = new Craft();
        Due.equal("two frames in words", Lander.give(y, two), 2);
        Due.equal("their report", y.report(), 0x8001);
        Craft z = new Craft();
        int[] shortest = Lander.sealed(128, 77, 0, 4, 0);
        Due.equal("frames of 5 bytes", Lander.give(z, Lander.join(shortest, shortest)), 2);
    }

    private static void noiseAround() {
        Craft x = new Craft();
        int[] noise = {250, 0, 243, 32, 250, 243, 31, 250};
        Due.equal("a frame in noise", Lander.give(x, Lander.join(noise, Lander.hail(0), noise)), 1);
        Due.equal("the beginning of a mark waits", Lander.give(x, 243, 32, 1), 0);
        Due.equal("and a frame behind it", Lander.give(x, Lander.sequenced(0)), 1);
        Due.equal("report", x.report(), 0x8001);
    }

    private static void wrongFirstBits() {
        for (int bits = 0; bits < 4; bits++) {
            Craft x = new Craft();
            int[] frame = Lander.sealed(bits << 6 | 16, 77, 0, 6, 0, 1, 0);
            Due.equal("bits 7, 6 are " + bits, Lander.give(x, frame), bits == 2 ? 1 : 0);
            Due.equal("report then", x.report(), bits == 2 ? 0x8000 : 0);
        }
    }

    private static void lengths() {
        for (int length = 5; length <= 66; length++) {
            Craft x = new Craft();
            int[] frame = Lander.frame(0, 0, 0, new int[length - 5]);
            Due.equal("a frame of " + length, Lander.give(x, frame), length <= 64 ? 1 : 0);
        }
        for (int length = 1; length < 5; length++) {
            Craft x = new Craft();
            int[] head = {128, 77, 0, length - 1};
            int[] frame = Lander.sealed(Lander.part(head, 0, Math.min(4, length)));
            Due.equal("a frame of " + length, Lander.give(x, Lander.join(frame, new int[8])), 0);
        }
        Craft x = new Craft();
        int[] far = Lander.frame(0, 0, 0, new int[256 + 2]);
        Due.equal("bits 2 .. 0 of byte 2 are of the length", Lander.give(x, far), 0);
        Craft z = new Craft();
        Due.equal("they are not left out", Lander.give(z, Lander.sealed(144, 77, 1, 6, 0, 1, 0)), 0);
        Craft y = new Craft();
        Due.equal("bits 6 .. 3 of byte 2 are any", Lander.give(y, Lander.sealed(144, 77, 120, 6, 9, 1, 9)), 1);
        Due.equal("report", y.report(), 0x8000);
    }

    private static void wrongChecks() {
        int[] good = Lander.sequenced(3, Lander.packet(77, 20));
        for (int k = 0; k < good.length; k++) {
            for (int bit = 0; bit < 8; bit++) {
                int[] bad = good.clone();
                bad[k] ^= 1 << bit;
                Craft x = new Craft();
                Due.equal("byte " + k + " with bit " + bit + " turned", Lander.give(x, bad), 0);
            }
        }
    }

    private static void framesInsideOfNone() {
        int[] inner = Lander.join(Lander.hail(1), Lander.frame(0, 1, 0), Lander.frame(32, 1, 0));
        int[] outer = Lander.frame(0, 0, 0, Lander.join(inner, row(4)));
        Craft whole = new Craft();
        Due.equal("a frame that holds frames is one", Lander.give(whole, outer), 1);
        outer[outer.length - 1] ^= 1;
        Craft x = new Craft();
        Due.equal("before its last byte", Lander.giveOneByOne(x, Lander.part(outer, 0, outer.length - 1)), 0);
        Due.equal("its check fails: those inside, at once", x.receive(outer[outer.length - 1], 1), 3);
        Due.equal("report", x.report(), 0x9101);
    }

    private static void marksThatOverlap() {
        Craft x = new Craft();
        Due.equal("250 250 243 32", Lander.give(x, Lander.join(row(250), Lander.hail(0))), 1);
        Craft y = new Craft();
        Due.equal("a mark that no frame follows", Lander.give(y, Lander.join(row(250, 243, 32), Lander.hail(0))), 1);
        Craft z = new Craft();
        int[] begun = {250, 243, 32, 128, 77, 7, 255};
        Due.equal("a length too great", Lander.give(z, Lander.join(begun, Lander.hail(0))), 1);
        Craft w = new Craft();
        int[] cut = {250, 243, 32, 128, 77, 0, 14, 0};
        Due.equal("a frame that was cut off", Lander.give(w, Lander.join(cut, Lander.hail(0))), 1);
        Due.equal("report", w.report(), 0x8000);
    }

    private static void takenWhileNotSeen() {
        Craft x = new Craft();
        x.window(0, 0, 2, 1);
        x.minute(1);
        Due.equal("taken though not seen", Lander.give(x, Lander.hail(0)), 1);
        Due.equal("but not looked at", x.report(), 0);
        int[] hail = Lander.hail(0);
        Lander.give(x, Lander.part(hail, 0, 13));
        x.minute(1);
        Due.equal("bytes wait for the next call", x.receive(hail[13], 1), 1);
        Due.equal("seen when it was taken", x.report(), 0x8000);
        x.minute(1);
        Lander.give(x, Lander.sequenced(0, Lander.packet(1, 7)));
        Due.equal("data not looked at", x.store(0), 0);
        Due.equal("the report stays", x.report(), 0x8000);
        x.window(0, 0, 1, 1);
        x.window(1, 0, 1, 0);
        Lander.give(x, Lander.sequenced(0, Lander.packet(1, 7)));
        Due.equal("Earth need not be seen", x.store(0), 1);
    }

    private static void otherSpacecraft() {
        int[] others = {0, 76, 78, 77 + 256, 77 + 512, 77 + 768, 1023};
        for (int other : others) {
            Craft x = new Craft();
            Due.equal("taken for " + other, Lander.give(x, Lander.frameOf(other, 16, 0, 0, 1, 0)), 1);
            Due.equal("not looked at for " + other, x.report(), 0);
        }
        Craft x = Lander.hailed();
        Lander.give(x, Lander.frameOf(78, 0, 0, 0, Lander.packet(1, 7)));
        Due.equal("data of another", x.store(0), 0);
        Due.equal("report", x.report(), 0x8000);
    }

    private static void wrongCalls() {
        Craft x = Lander.hailed();
        Due.badArgument("receive(0, 0)", () -> x.receive(0, 0));
        Due.badArgument("receive(0, 5)", () -> x.receive(0, 5));
        Due.badArgument("receive(0, -1)", () -> x.receive(0, -1));
        x.fail(1);
        int[] frame = Lander.sequenced(0, Lander.packet(1, 7));
        Due.equal("power fails at a frame: it was taken", Lander.give(x, frame), 1);
        Due.unsupported("receive while out", () -> x.receive(0, 1));
        Due.unsupported("receive while out, n wrong", () -> x.receive(0, 5));
    }

    private static int[] row(int... bytes) {
        return bytes;
    }
}
