/** Promises 1 to 4: a new object, window, minute, seen. */
public final class WindowsTest {
    public static void main(String[] args) {
        newObject();
        windowsOpenAndClose();
        windowsAreApart();
        greatNumbers();
        wrongWindows();
        minutes();
        clockGoesOnWhileOut();
        wrongWhich();
        Due.end();
    }

    private static void newObject() {
        Craft x = new Craft();
        Due.isTrue("new seen(0)", x.seen(0));
        Due.isTrue("new seen(1)", x.seen(1));
        Due.isFalse("new out()", x.out());
        Due.equal("new report()", x.report(), 0);
        Due.equal("new store(0)", x.store(0), 0);
        Due.equal("new store(1)", x.store(1), 24);
        Due.equal("new store(2)", x.store(2), 0);
        Due.equal("new store(3)", x.store(3), 0);
        Due.equal("first minute(1)", x.minute(1), 1);
        for (int k = 0; k < 100; k++) {
            x.minute(1000);
            Due.isTrue("always open, lander", x.seen(0));
            Due.isTrue("always open, Earth", x.seen(1));
        }
        powerIsNotAboutToFail();
    }

    private static void powerIsNotAboutToFail() {
        Craft x = Lander.hailed();
        for (int k = 0; k < 60; k++) {
            Lander.give(x, Lander.sequenced(k, Lander.packet(2, 7)));
            x.send(0);
        }
        Due.equal("sixty stored and dropped, two journals renewed", x.store(3), 60 * 3 + 2);
        Due.isFalse("out() behind many writes", x.out());
    }

    private static void windowsOpenAndClose() {
        for (int which = 0; which < 2; which++) {
            Craft x = new Craft();
            x.window(which, 3, 7, 2);
            for (int m = 0; m < 30; m++) {
                Due.equal("seen(" + which + ") in minute " + m, x.seen(which) ? 1 : 0, (m + 3) % 7 < 2 ? 1 : 0);
                x.minute(1);
            }
        }
    }

    private static void windowsAreApart() {
        Craft x = new Craft();
        x.window(0, 0, 1, 0);
        Due.isFalse("lander's window closed", x.seen(0));
        Due.isTrue("Earth's window still open", x.seen(1));
        x.window(0, 0, 5, 9);
        x.window(1, 4, 5, 4);
        Due.isTrue("length above the period", x.seen(0));
        Due.isFalse("Earth's window closed", x.seen(1));
        x.minute(1);
        Due.isTrue("Earth's window opens", x.seen(1));
        x.power();
        Due.isTrue("windows outlive power, lander", x.seen(0));
        x.minute(4);
        Due.isFalse("windows outlive power, Earth", x.seen(1));
    }

    private static void greatNumbers() {
        int most = Integer.MAX_VALUE;
        Craft x = new Craft();
        x.window(0, most, most, 1);
        Due.isTrue("shift equals period", x.seen(0));
        x.minute(1);
        Due.isFalse("the sum passes an int", x.seen(0));
        x.window(0, most, 10, 9);
        Due.isTrue("(1 + 2147483647) % 10 is 8", x.seen(0));
        x.window(0, most, 10, 8);
        Due.isFalse("(1 + 2147483647) % 10 is not below 8", x.seen(0));
        x.window(0, 0, most, most);
        Due.isTrue("greatest period and length", x.seen(0));
    }

    private static void wrongWindows() {
        Craft x = new Craft();
        x.window(0, 0, 1, 0);
        Due.badArgument("window(-1, ..)", () -> x.window(-1, 0, 1, 1));
        Due.badArgument("window(2, ..)", () -> x.window(2, 0, 1, 1));
        Due.badArgument("shift -1", () -> x.window(0, -1, 1, 1));
        Due.badArgument("period 0", () -> x.window(0, 0, 0, 1));
        Due.badArgument("period below 0", () -> x.window(0, 0, Integer.MIN_VALUE, 1));
        Due.badArgument("length -1", () -> x.window(0, 0, 1, -1));
        Due.isFalse("a refused window changes nothing", x.seen(0));
    }

    private static void minutes() {
        Craft x = new Craft();
        Due.equal("minute(1000)", x.minute(1000), 1000);
        Due.badArgument("minute(0)", () -> x.minute(0));
        Due.badArgument("minute(-1)", () -> x.minute(-1));
        Due.badArgument("minute(1001)", () -> x.minute(1001));
        Due.equal("minute(1)", x.minute(1), 1001);
        x.power();
        Due.equal("minute behind power()", x.minute(2), 1003);
    }

    private static void clockGoesOnWhileOut() {
        Craft x = Lander.hailed();
        x.minute(5);
        x.fail(1);
        Lander.give(x, Lander.sequenced(0, Lander.packet(0, 7)));
        Due.isTrue("out()", x.out());
        Due.equal("minute(4) while out", x.minute(4), 9);
        x.window(1, 1, 10, 1);
        Due.isTrue("seen(1) while out", x.seen(1));
        Due.badArgument("seen(2) while out", () -> x.seen(2));
        Due.badArgument("minute(0) while out", () -> x.minute(0));
    }

    private static void wrongWhich() {
        Craft x = new Craft();
        Due.badArgument("seen(-1)", () -> x.seen(-1));
        Due.badArgument("seen(2)", () -> x.seen(2));
    }
}
