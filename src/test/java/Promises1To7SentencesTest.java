/** Promises 1 to 7, sentence by sentence. */
public final class Promises1To7SentencesTest {
    private static final Class<IllegalArgumentException> ARGUMENT = IllegalArgumentException.class;
    private static final Class<UnsupportedOperationException> OUT = UnsupportedOperationException.class;
    private static final int[] NO_PAIR = {Integer.MIN_VALUE, -2, -1, 2, 3, Integer.MAX_VALUE};

    public static void main(String[] args) {
        newObject();
        window();
        minute();
        seen();
        receive();
        report();
        send();
        Due.end();
    }

    private static void newObject() {
        Sentence.in("Promise 1: A new object");
        Sentence.says("Minute 0, windows always open", Promises1To7SentencesTest::minute0WindowsAlwaysOpen);
        Sentence.says("session off, store empty, power on and not about to fail.", Promises1To7SentencesTest::offEmptyOn);
    }

    private static void window() {
        Sentence.in("Promise 2: window");
        Sentence.says("Sets the windows of the lander (which = 0) or Earth (1): shift, period, length.",
            Promises1To7SentencesTest::setsTheWindows);
        Sentence.says("IllegalArgumentException if there is no such which", Promises1To7SentencesTest::windowOfNoSuch);
        Sentence.says("shift is below 0", Promises1To7SentencesTest::shiftBelow0);
        Sentence.says("period below 1", Promises1To7SentencesTest::periodBelow1);
        Sentence.says("or length below 0.", Promises1To7SentencesTest::lengthBelow0);
    }

    private static void minute() {
        Sentence.in("Promise 3: minute");
        Sentence.says("The clock goes on by 1 .. 1000 minutes: what minute it is", Promises1To7SentencesTest::by1To1000);
        Sentence.says("(also while it is out)", Promises1To7SentencesTest::minuteWhileOut);
        Sentence.says("IllegalArgumentException for other numbers.", Promises1To7SentencesTest::otherMinutes);
    }

    private static void seen() {
        Sentence.in("Promise 4: seen");
        Sentence.says("Whether the lander (0) or Earth (1) is seen now.", Promises1To7SentencesTest::isSeenNow);
        Sentence.says("IllegalArgumentException if there is no such which.", Promises1To7SentencesTest::seenOfNoSuch);
    }

    private static void receive() {
        Sentence.in("Promise 5: receive");
        Sentence.says("The n lowest bytes of word come from the lander, the highest of them first",
            Promises1To7SentencesTest::lowestBytesHighestFirst);
        Sentence.says("how many frames were taken", Promises1To7SentencesTest::howManyWereTaken);
        Sentence.says("UnsupportedOperationException if it is out", Promises1To7SentencesTest::receiveWhileOut);
        Sentence.says("IllegalArgumentException if n is not 1 .. 4.", Promises1To7SentencesTest::nIsNot1To4);
        Sentence.says("(Should power fail at one of them, those behind it are lost.)",
            Promises1To7SentencesTest::thoseBehindAreLost);
    }

    private static void report() {
        Sentence.in("Promise 6: report");
        Sentence.says("The report.", Promises1To7SentencesTest::theReport);
        Sentence.says("UnsupportedOperationException if it is out.", Promises1To7SentencesTest::reportWhileOut);
    }

    private static void send() {
        Sentence.in("Promise 7: send");
        Sentence.says("A frame to Earth on a channel: its count.", Promises1To7SentencesTest::itsCount);
        Sentence.says("UnsupportedOperationException if it is out", Promises1To7SentencesTest::sendWhileOut);
        Sentence.says("IllegalArgumentException if there is no such channel", Promises1To7SentencesTest::noSuchChannel);
        Sentence.says("IllegalStateException if Earth is not seen.", Promises1To7SentencesTest::earthIsNotSeen);
        Sentence.says("(Should power fail while packets are dropped, the frame has been sent all the same.)",
            Promises1To7SentencesTest::sentAllTheSame);
    }

    private static void minute0WindowsAlwaysOpen() {
        Craft x = new Craft();
        for (int m = 1; m <= 40; m++) {
            Due.isTrue("the lander before " + m, x.seen(0));
            Due.isTrue("Earth before " + m, x.seen(1));
            Due.equal("minute(1)", x.minute(1), m);
        }
        Due.equal("minute(1000)", x.minute(1000), 1040);
        Due.isTrue("the lander then", x.seen(0));
        Due.isTrue("Earth then", x.seen(1));
    }

    private static void offEmptyOn() {
        Craft x = new Craft();
        Due.equal("report()", x.report(), 0);
        int[] want = {0, 24, 0, 0};
        for (int what = 0; what < 4; what++) {
            Due.equal("store(" + what + ")", x.store(what), want[what]);
        }
        Due.badIndex("packet(0, 0)", () -> x.packet(0, 0));
        Due.badIndex("content(0, 0)", () -> x.content(0, 0));
        Due.badIndex("sent(0)", () -> x.sent(0));
        Due.isFalse("out()", x.out());
        Lander.give(x, Lander.hail(0));
        while (x.store(3) <= 101) {
            Lander.fill(x, 2, 8);
            for (int k = 0; k < 3; k++) {
                x.send(0);
            }
        }
        Due.isFalse("out() behind more than 100 writes", x.out());
    }

    private static void setsTheWindows() {
        for (int which = 0; which < 2; which++) {
            Craft x = new Craft();
            x.window(which, 0, 1, 0);
            Due.isFalse("the least numbers: never", x.seen(which));
            Due.isTrue("the other one is as before", x.seen(1 - which));
            x.window(which, 2, 3, 1);
            Due.isFalse("minute 0", x.seen(which));
            x.minute(1);
            Due.isTrue("minute 1", x.seen(which));
            x.minute(1);
            Due.isFalse("minute 2", x.seen(which));
            int most = Integer.MAX_VALUE;
            x.window(which, most, most, most);
            Due.isTrue("the greatest numbers: always", x.seen(which));
        }
        Craft out = Lander.outOfPower();
        out.window(0, 0, 1, 0);
        Due.isFalse("while it is out", out.seen(0));
    }

    private static void refusedWindow(int which, int shift, int period, int length) {
        Craft x = new Craft();
        x.window(0, 0, 2, 1);
        x.window(1, 1, 2, 1);
        String call = "window(" + which + ", " + shift + ", " + period + ", " + length + ")";
        Due.refused(call, ARGUMENT, x, () -> x.window(which, shift, period, length));
        x.minute(1);
        Due.isFalse("the lander's window is as it was", x.seen(0));
        Due.isTrue("Earth's window is as it was", x.seen(1));
    }

    private static void windowOfNoSuch() {
        for (int which : NO_PAIR) {
            refusedWindow(which, 0, 1, 1);
        }
    }

    private static void shiftBelow0() {
        for (int shift : new int[] {-1, -2, -1000, Integer.MIN_VALUE}) {
            refusedWindow(0, shift, 1, 1);
            refusedWindow(1, shift, 1, 1);
        }
        new Craft().window(0, 0, 1, 1);
    }

    private static void periodBelow1() {
        for (int period : new int[] {0, -1, -2, -1000, Integer.MIN_VALUE}) {
            refusedWindow(0, 0, period, 1);
            refusedWindow(1, 0, period, 1);
        }
    }

    private static void lengthBelow0() {
        for (int length : new int[] {-1, -2, -1000, Integer.MIN_VALUE}) {
            refusedWindow(0, 0, 1, length);
            refusedWindow(1, 0, 1, length);
        }
    }

    private static void by1To1000() {
        Craft x = new Craft();
        int now = 0;
        for (int n : new int[] {1, 2, 500, 999, 1000, 1000, 1}) {
            now += n;
            Due.equal("minute(" + n + ")", x.minute(n), now);
        }
    }

    private static void minuteWhileOut() {
        Craft x = Lander.outOfPower();
        Due.equal("minute(1)", x.minute(1), 1);
        Due.equal("minute(1000)", x.minute(1000), 1001);
        Due.badArgument("minute(0)", () -> x.minute(0));
        Due.badArgument("minute(1001)", () -> x.minute(1001));
        Due.isTrue("it is still out", x.out());
        x.power();
        Due.equal("minute(1) when power came", x.minute(1), 1002);
    }

    private static void otherMinutes() {
        for (int n : new int[] {Integer.MIN_VALUE, -1000, -1, 0, 1001, 1002, 2000, Integer.MAX_VALUE}) {
            Craft x = new Craft();
            x.minute(7);
            Due.refused("minute(" + n + ")", ARGUMENT, x, () -> x.minute(n));
            Due.equal("the clock stands", x.minute(1), 8);
        }
    }

    private static void isSeenNow() {
        for (int which = 0; which < 2; which++) {
            Craft x = new Craft();
            x.window(which, 0, 2, 1);
            x.window(1 - which, 0, 1, 0);
            Due.isTrue("in minute 0", x.seen(which));
            Due.isFalse("the other", x.seen(1 - which));
            x.minute(1);
            Due.isFalse("in minute 1", x.seen(which));
        }
        Due.isTrue("while it is out", Lander.outOfPower().seen(1));
    }

    private static void seenOfNoSuch() {
        for (int which : NO_PAIR) {
            Craft x = new Craft();
            Due.refused("seen(" + which + ")", ARGUMENT, x, () -> x.seen(which));
            Craft out = Lander.outOfPower();
            Due.refused("seen(" + which + ") while out", ARGUMENT, out, () -> out.seen(which));
        }
    }

    private static void lowestBytesHighestFirst() {
        int[] hail = Lander.hail(1);
        for (int n = 1; n <= 4; n++) {
            for (int above : new int[] {0, -1, 0x5AFAF320}) {
                Craft x = new Craft();
                int taken = 0;
                for (int from = 0; from < hail.length; from += n) {
                    int some = Math.min(n, hail.length - from);
                    int word = Lander.wordOf(Lander.part(hail, from, from + some));
                    int high = some == 4 ? 0 : above << 8 * some;
                    taken += x.receive(high | word, some);
                }
                Due.equal("taken by " + n, taken, 1);
                Due.equal("report by " + n, x.report(), 0x9000);
            }
        }
    }

    private static void howManyWereTaken() {
        int[] least = Lander.sealed(128, 77, 0, 4, 0);
        Craft x = new Craft();
        for (int k = 0; k < 11; k++) {
            Due.equal("before its last byte", x.receive(least[k], 1), 0);
        }
        Due.equal("with its last byte", x.receive(least[11], 1), 1);
        Craft y = new Craft();
        int[] four = Lander.frame(0, 0, 0, Lander.join(least, least, least, least));
        four[four.length - 1] ^= 1;
        for (int k = 0; k < four.length - 1; k++) {
            Due.equal("as long as they are inside of another", y.receive(four[k], 1), 0);
        }
        Due.equal("four at once", y.receive(four[four.length - 1], 1), 4);
        Craft z = new Craft();
        z.window(0, 0, 1, 0);
        Due.equal("also if the lander is not seen", Lander.give(z, least), 1);
        Due.equal("also for another spacecraft", Lander.give(z, Lander.frameOf(76, 0, 0, 0)), 1);
        Due.equal("none", z.receive(-1, 4), 0);
    }

    private static void receiveWhileOut() {
        for (int n = 1; n <= 4; n++) {
            int bytes = n;
            Craft x = Lander.outOfPower();
            Due.refused("receive(.., " + n + ")", OUT, x, () -> x.receive(250, bytes));
        }
        Craft x = Lander.outOfPower();
        Due.refused("receive(.., 0)", OUT, x, () -> x.receive(250, 0));
        Due.refused("receive(.., 5)", OUT, x, () -> x.receive(250, 5));
    }

    private static void nIsNot1To4() {
        int[] hail = Lander.hail(0);
        for (int n : new int[] {Integer.MIN_VALUE, -1, 0, 5, 6, 8, Integer.MAX_VALUE}) {
            Craft x = new Craft();
            Lander.give(x, Lander.part(hail, 0, 13));
            Due.refused("receive(.., " + n + ")", ARGUMENT, x, () -> x.receive(hail[13], n));
            Due.equal("its bytes did not come", x.receive(hail[13], 1), 1);
            Due.equal("report", x.report(), 0x8000);
        }
    }

    private static void thoseBehindAreLost() {
        int[] frame = Lander.sequenced(0, Lander.packet(2, 7));
        int[] hail = Lander.hail(0);
        for (int behind = 0; behind <= 3; behind++) {
            Craft x = Lander.hailed();
            x.fail(2);
            Lander.giveOneByOne(x, Lander.part(frame, 0, frame.length - 1));
            int last = frame[frame.length - 1];
            int word = Lander.wordOf(Lander.join(Lander.row(last), Lander.part(hail, 0, behind)));
            Due.equal("the frame at which power fails", x.receive(word, 1 + behind), 1);
            Due.isTrue("out", x.out());
            Due.equal("power()", x.power(), 1);
            int taken = Lander.give(x, Lander.part(hail, behind, hail.length));
            Due.equal(behind + " bytes behind it are lost", taken, behind == 0 ? 1 : 0);
        }
        Craft x = Lander.hailed();
        int[] bad = Lander.frame(0, 0, 0, Lander.join(frame, Lander.sequenced(1, Lander.packet(4, 7))));
        bad[bad.length - 1] ^= 1;
        x.fail(1);
        Due.equal("of two at once the second is lost", Lander.give(x, bad), 1);
        Due.equal("one write", x.store(3), 1);
    }

    private static void theReport() {
        Craft x = new Craft();
        Due.equal("off", x.report(), 0);
        Lander.give(x, Lander.hail(1));
        Due.equal("on", x.report(), 0x9000);
        Due.equal("asked again", x.report(), 0x9000);
        x.window(0, 0, 1, 0);
        Due.equal("while the lander is not seen", x.report(), 0x9000);
    }

    private static void reportWhileOut() {
        Craft x = Lander.outOfPower();
        Due.refused("report()", OUT, x, x::report);
        x.power();
        Due.equal("when power came", x.report(), 0);
    }

    private static void itsCount() {
        Craft x = new Craft();
        for (int k = 0; k < 5; k++) {
            Due.equal("channel 0", x.send(0), k);
            Due.equal("it is told", x.sent(4), k);
        }
        Due.equal("channel 1", x.send(1), 0);
        Due.equal("channel 1", x.send(1), 1);
        Due.equal("channel 0 again", x.send(0), 5);
    }

    private static void sendWhileOut() {
        Craft x = Lander.outOfPower();
        Due.refused("send(0)", OUT, x, () -> x.send(0));
        Due.refused("send(1)", OUT, x, () -> x.send(1));
        Due.refused("send(2)", OUT, x, () -> x.send(2));
        x.window(1, 0, 1, 0);
        Due.refused("send(0), Earth not seen", OUT, x, () -> x.send(0));
        x.window(1, 0, 1, 1);
        x.power();
        Due.equal("it did not count", x.send(0), 0);
    }

    private static void noSuchChannel() {
        for (int channel : NO_PAIR) {
            Craft x = Lander.hailed();
            Lander.fill(x, 2, 1);
            Due.refused("send(" + channel + ")", ARGUMENT, x, () -> x.send(channel));
            x.window(1, 0, 1, 0);
            Due.refused("send(" + channel + "), Earth not seen", ARGUMENT, x, () -> x.send(channel));
        }
    }

    private static void earthIsNotSeen() {
        for (int channel = 0; channel < 2; channel++) {
            int on = channel;
            Craft x = Lander.hailed();
            Lander.fill(x, 2, 1);
            x.window(1, 0, 3, 2);
            x.minute(1);
            Due.equal("the last minute of the window", x.send(1 - channel), 0);
            x.minute(1);
            Due.refused("send(" + channel + ")", IllegalStateException.class, x, () -> x.send(on));
            x.minute(1);
            Due.equal("the first minute of the next; the refused one did not count", x.send(channel), 0);
        }
    }

    private static void sentAllTheSame() {
        int[] three = Lander.sevens(2, 3);
        for (int writes = 1; writes <= 3; writes++) {
            Craft x = Lander.hailed();
            Lander.fill(x, 2, 3);
            x.fail(writes);
            Due.equal("its count", x.send(0), 0);
            Due.isTrue("out behind " + writes, x.out());
            for (int k = 0; k < 21; k++) {
                Due.equal("byte " + k + " of the zone", x.sent(8 + k), three[k]);
            }
            x.power();
            Due.equal("the next count", x.send(0), 1);
        }
    }
}
