/** What it is, and of the Terms: windows. */
public final class WindowSentencesTest {
    public static void main(String[] args) {
        Sentence.in("What it is");
        Sentence.says("An object is used for at most 512 calls after it has been made", WindowSentencesTest::upTo512Calls);
        Sentence.in("Terms");
        Sentence.says("the lander is seen in minutes m with (m + a) % b < c", () -> seenInMinutes(0));
        Sentence.says("Earth in those with (m + d) % e < f", () -> seenInMinutes(1));
        Sentence.says("by numbers that are set", WindowSentencesTest::byNumbersThatAreSet);
        Due.end();
    }

    private static void upTo512Calls() {
        Craft minutes = new Craft();
        for (int k = 1; k < 512; k++) {
            minutes.minute(1000);
        }
        Due.equal("the 512th minute(1000)", minutes.minute(1000), 512000);
        Craft frames = new Craft();
        for (int k = 1; k < 512; k++) {
            frames.send(1);
        }
        Due.equal("the 512th send(1)", frames.send(1), 511);
        Craft bytes = new Craft();
        int[] eight = Lander.sevens(2, 8);
        Lander.give(bytes, Lander.hail(0));
        int number = 0;
        while (bytes.callsLeft() >= 17 + 3) {
            Lander.give(bytes, Lander.sequenced(number, eight));
            number++;
            bytes.send(0);
            bytes.send(0);
            bytes.send(0);
        }
        while (bytes.callsLeft() > 1) {
            bytes.out();
        }
        Due.equal("the 512th, report()", bytes.report(), 0x8000 + number);
    }

    private static void seenInMinutes(int which) {
        int[][] rules = {
            {0, 1, 0}, {0, 1, 1}, {0, 1, 2}, {0, 5, 0}, {0, 5, 1}, {0, 5, 4}, {0, 5, 5}, {0, 5, 6},
            {1, 5, 1}, {4, 5, 1}, {5, 5, 1}, {6, 5, 1}, {7, 3, 2}
        };
        for (int[] r : rules) {
            Craft x = new Craft();
            x.window(which, r[0], r[1], r[2]);
            for (int m = 0; m < 20; m++) {
                boolean want = (m + r[0]) % r[1] < r[2];
                String what = "minute " + m + " by " + r[0] + ", " + r[1] + ", " + r[2];
                Due.equal(what, x.seen(which) ? 1 : 0, want ? 1 : 0);
                x.minute(1);
            }
        }
        int most = Integer.MAX_VALUE;
        Craft x = new Craft();
        x.minute(1);
        x.window(which, most, most, 1);
        Due.isFalse("the greatest shift and period: 1 is not below 1", x.seen(which));
        x.window(which, most, most, 2);
        Due.isTrue("the greatest shift and period: 1 is below 2", x.seen(which));
        x.window(which, most, 10, 8);
        Due.isFalse("2147483648 % 10 is not below 8", x.seen(which));
        x.window(which, most, 10, 9);
        Due.isTrue("2147483648 % 10 is below 9", x.seen(which));
    }

    private static void byNumbersThatAreSet() {
        Craft x = new Craft();
        x.window(0, 0, 2, 1);
        x.window(1, 1, 2, 1);
        for (int m = 0; m < 4; m++) {
            Due.equal("the lander in " + m, x.seen(0) ? 1 : 0, m % 2 == 0 ? 1 : 0);
            Due.equal("Earth in " + m, x.seen(1) ? 1 : 0, m % 2 == 1 ? 1 : 0);
            x.minute(1);
        }
        x.window(0, 1, 2, 1);
        Due.isFalse("set again: the lander", x.seen(0));
        Due.isFalse("not set again: Earth", x.seen(1));
        x.power();
        Due.isFalse("behind power(): the lander", x.seen(0));
        x.minute(1);
        Due.isTrue("behind power(): the lander a minute later", x.seen(0));
    }
}
