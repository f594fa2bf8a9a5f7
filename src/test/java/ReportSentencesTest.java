/** Terms: the report. */
public final class ReportSentencesTest {
    public static void main(String[] args) {
        Sentence.in("Terms");
        Sentence.says("The REPORT: bit 15 is 1", ReportSentencesTest::bit15);
        Sentence.says("bit 13 the retransmit flag", ReportSentencesTest::bit13);
        Sentence.says("bit 12 the channel", ReportSentencesTest::bit12);
        Sentence.says("bits 10 .. 8 the count", ReportSentencesTest::bits10To8);
        Sentence.says("bits 7 .. 0 V", ReportSentencesTest::bits7To0);
        Sentence.says("0 if the session is off.", ReportSentencesTest::zeroIfOff);
        Due.end();
    }

    /** On a channel, with V, the flag if it is wanted, and the count. */
    private static Craft with(int channel, int v, int flag, int count) {
        Craft x = new Craft();
        Lander.give(x, Lander.hail(channel));
        Lander.give(x, Lander.set(channel, v));
        if (flag == 1) {
            Lander.give(x, Lander.frame(0, channel, v + 1 & 255));
        }
        for (int k = 0; k < count; k++) {
            Lander.give(x, Lander.frame(32, channel, 0));
        }
        return x;
    }

    private static void bit15() {
        Due.equal("the least report", with(0, 0, 0, 0).report(), 1 << 15);
        int greatest = 1 << 15 | 1 << 13 | 1 << 12 | 7 << 8 | 255;
        Due.equal("the greatest", with(1, 255, 1, 7).report(), greatest);
    }

    private static void bit13() {
        Due.equal("the flag alone", with(0, 0, 1, 0).report(), 1 << 15 | 1 << 13);
        Due.equal("all but the flag", with(1, 255, 0, 7).report(), 1 << 15 | 1 << 12 | 7 << 8 | 255);
    }

    private static void bit12() {
        Due.equal("the channel alone", with(1, 0, 0, 0).report(), 1 << 15 | 1 << 12);
        Due.equal("all but the channel", with(0, 255, 1, 7).report(), 1 << 15 | 1 << 13 | 7 << 8 | 255);
    }

    private static void bits10To8() {
        for (int count = 0; count <= 16; count++) {
            Due.equal("count " + count, with(0, 0, 0, count).report(), 1 << 15 | count % 8 << 8);
        }
    }

    private static void bits7To0() {
        for (int v = 0; v < 256; v++) {
            Due.equal("V " + v, with(0, v, 0, 0).report(), 1 << 15 | v);
        }
    }

    private static void zeroIfOff() {
        Due.equal("a new one", new Craft().report(), 0);
        Craft ended = with(1, 255, 1, 7);
        Lander.give(ended, Lander.end(1));
        Due.equal("ended", ended.report(), 0);
        Craft powered = with(1, 255, 1, 7);
        powered.power();
        Due.equal("power came again", powered.report(), 0);
    }
}
