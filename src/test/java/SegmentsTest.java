/** Promise 5: packets put together from segments. */
public final class SegmentsTest {
    private static final int[] PACKET = Lander.packet(300, 60);

    public static void main(String[] args) {
        threeParts();
        wholeOnes();
        streamsAreApart();
        otherStreams();
        goingOnWithoutBeginning();
        beginningAnew();
        sixtyBytes();
        partsThatAreNoPacket();
        emptyParts();
        forgottenByHailAndPower();
        refusedSegments();
        refusedWhole();
        expeditedWithoutRoom();
        notInTurn();
        otherForms();
        Due.end();
    }

    private static void segment(Craft x, int number, int header, int... part) {
        Lander.give(x, Lander.segment(Lander.SEQUENCED, number, header, part));
    }

    private static void expedited(Craft x, int header, int... part) {
        Lander.give(x, Lander.segment(Lander.EXPEDITED, 0, header, part));
    }

    private static void contentIs(String what, Craft x, int i, int... want) {
        Due.equal(what + ": length", x.packet(i, 1), want.length);
        for (int k = 0; k < want.length; k++) {
            Due.equal(what + ": byte " + k, x.content(i, k), want[k]);
        }
    }

    private static void threeParts() {
        for (int stream = 0; stream < 4; stream++) {
            Craft x = Lander.hailed();
            segment(x, 0, Lander.FIRST | stream, Lander.part(PACKET, 0, 25));
            expedited(x, Lander.MIDDLE | stream, Lander.part(PACKET, 25, 31));
            Due.equal("not yet", x.store(0), 0);
            segment(x, 1, Lander.LAST | stream, Lander.part(PACKET, 31, 60));
            Due.equal("put together", x.store(0), 1);
            contentIs("stream " + stream, x, 0, PACKET);
            Due.equal("report", x.report(), 0x8102);
            segment(x, 2, Lander.LAST | stream, Lander.packet(1, 7));
            Due.equal("the stream is forgotten then", x.store(0), 1);
        }
    }

    private static void wholeOnes() {
        Craft x = Lander.hailed();
        segment(x, 0, Lander.WHOLE | 2, Lander.part(PACKET, 0, 58));
        Due.equal("cut off", x.store(0), 0);
        segment(x, 1, Lander.WHOLE | 2, Lander.packet(9, 58));
        Due.equal("58 bytes", x.store(0), 1);
        segment(x, 2, Lander.FIRST | 2, Lander.part(PACKET, 0, 30));
        segment(x, 3, Lander.WHOLE | 2, Lander.packet(9, 7));
        segment(x, 4, Lander.LAST | 2, Lander.part(PACKET, 30, 60));
        Due.equal("a whole one makes its stream forgotten", x.store(0), 2);
        segment(x, 5, Lander.WHOLE, Lander.join(Lander.packet(9, 7), Lander.packet(9, 7)));
        Due.equal("two are not one", x.store(0), 2);
        Due.equal("report", x.report(), 0x8006);
    }

    private static void streamsAreApart() {
        Craft x = Lander.hailed();
        for (int s = 0; s < 4; s++) {
            segment(x, s, Lander.FIRST | s, Lander.part(Lander.packet(40 + s, 20), 0, 5 + s));
        }
        for (int s = 3; s >= 0; s--) {
            expedited(x, Lander.LAST | s, Lander.part(Lander.packet(40 + s, 20), 5 + s, 20));
        }
        Due.equal("four packets", x.store(0), 4);
        for (int s = 0; s < 4; s++) {
            contentIs("stream " + s, x, 3 - s, Lander.packet(40 + s, 20));
        }
    }

    private static void otherStreams() {
        for (int s = 4; s < 64; s++) {
            Craft x = Lander.hailed();
            segment(x, 0, Lander.FIRST | s % 4, Lander.part(PACKET, 0, 30));
            segment(x, 1, Lander.WHOLE | s, Lander.packet(1, 7));
            Due.equal("stream " + s, x.store(0), 0);
            Due.equal("V goes on", x.report(), 0x8002);
            segment(x, 2, Lander.LAST | s % 4, Lander.part(PACKET, 30, 60));
            Due.equal("the others are as they were", x.store(0), 1);
        }
    }

    private static void goingOnWithoutBeginning() {
        Craft x = Lander.hailed();
        segment(x, 0, Lander.MIDDLE, Lander.part(PACKET, 0, 30));
        segment(x, 1, Lander.LAST, Lander.part(PACKET, 30, 60));
        segment(x, 2, Lander.LAST, Lander.packet(1, 7));
        Due.equal("nothing was begun", x.store(0), 0);
        Due.equal("V goes on", x.report(), 0x8003);
    }

    private static void beginningAnew() {
        Craft x = Lander.hailed();
        segment(x, 0, Lander.FIRST, Lander.part(PACKET, 0, 30));
        segment(x, 1, Lander.FIRST, Lander.part(Lander.packet(4, 12), 0, 6));
        segment(x, 2, Lander.LAST, Lander.part(Lander.packet(4, 12), 6, 12));
        contentIs("the later first", x, 0, Lander.packet(4, 12));
    }

    private static void sixtyBytes() {
        Craft x = Lander.hailed();
        segment(x, 0, Lander.FIRST, Lander.part(PACKET, 0, 58));
        segment(x, 1, Lander.MIDDLE, Lander.part(PACKET, 58, 60));
        segment(x, 2, Lander.LAST);
        Due.equal("sixty", x.store(0), 1);
        segment(x, 3, Lander.FIRST, Lander.part(PACKET, 0, 58));
        segment(x, 4, Lander.MIDDLE, 1, 2, 3);
        segment(x, 5, Lander.LAST, Lander.part(PACKET, 58, 60));
        Due.equal("sixty passed: forgotten", x.store(0), 1);
        segment(x, 6, Lander.FIRST, Lander.part(PACKET, 0, 58));
        segment(x, 7, Lander.LAST, 1, 2, 3);
        segment(x, 8, Lander.LAST, Lander.part(PACKET, 58, 60));
        Due.equal("sixty passed by a last one: forgotten", x.store(0), 1);
        Due.equal("V goes on", x.report(), 0x8009);
    }

    private static void partsThatAreNoPacket() {
        Craft x = Lander.hailed();
        segment(x, 0, Lander.FIRST, Lander.part(PACKET, 0, 30));
        segment(x, 1, Lander.LAST, Lander.part(PACKET, 30, 59));
        Due.equal("too short", x.store(0), 0);
        segment(x, 2, Lander.LAST, Lander.part(PACKET, 59, 60));
        Due.equal("forgotten then", x.store(0), 0);
        segment(x, 3, Lander.FIRST, Lander.packet(3, 20));
        segment(x, 4, Lander.LAST, 0);
        Due.equal("too long", x.store(0), 0);
        int[] high = Lander.packet(3, 20);
        high[0] = 24;
        segment(x, 5, Lander.WHOLE, high);
        Due.equal("byte 0 too great", x.store(0), 0);
        Due.equal("V goes on", x.report(), 0x8006);
    }

    private static void emptyParts() {
        Craft x = Lander.hailed();
        segment(x, 0, Lander.FIRST);
        segment(x, 1, Lander.MIDDLE, Lander.packet(3, 20));
        segment(x, 2, Lander.MIDDLE);
        segment(x, 3, Lander.LAST);
        Due.equal("parts without bytes", x.store(0), 1);
        segment(x, 4, Lander.WHOLE);
        segment(x, 5, Lander.FIRST);
        segment(x, 6, Lander.LAST);
        Due.equal("nothing is no packet", x.store(0), 1);
        segment(x, 7, Lander.FIRST, Lander.part(PACKET, 0, 30));
        Lander.give(x, Lander.frame(Lander.SEGMENT, 0, 8));
        segment(x, 9, Lander.LAST, Lander.part(PACKET, 30, 60));
        Due.equal("a segment without data changes no stream", x.store(0), 2);
        Due.equal("report", x.report(), 0x800A);
    }

    private static void forgottenByHailAndPower() {
        Craft x = Lander.hailed();
        segment(x, 0, Lander.FIRST | 3, Lander.part(PACKET, 0, 30));
        Lander.give(x, Lander.hail(0));
        segment(x, 0, Lander.LAST | 3, Lander.part(PACKET, 30, 60));
        Due.equal("forgotten by a hail", x.store(0), 0);
        segment(x, 1, Lander.FIRST, Lander.part(PACKET, 0, 30));
        x.power();
        Lander.give(x, Lander.hail(0));
        segment(x, 0, Lander.LAST, Lander.part(PACKET, 30, 60));
        Due.equal("forgotten by power", x.store(0), 0);
        segment(x, 1, Lander.FIRST, Lander.part(PACKET, 0, 30));
        Lander.give(x, Lander.set(0, 90));
        segment(x, 90, Lander.LAST, Lander.part(PACKET, 30, 60));
        Due.equal("not by set", x.store(0), 1);
    }

    private static Craft nearlyFull() {
        Craft x = Lander.hailed();
        for (int k = 0; k < 22; k++) {
            Lander.give(x, Lander.expedited(Lander.packet(2 * k, 20)));
        }
        return x;
    }

    private static void refusedSegments() {
        Craft x = nearlyFull();
        segment(x, 0, Lander.FIRST, Lander.part(PACKET, 0, 30));
        segment(x, 1, Lander.LAST, Lander.part(PACKET, 30, 60));
        Due.equal("refused", x.report(), 0xA601);
        x.send(0);
        segment(x, 1, Lander.LAST, Lander.part(PACKET, 30, 60));
        Due.equal("taken when there is room", x.report(), 0x8602);
        Due.equal("one dropped, one stored", x.store(0), 22);
        contentIs("the stream was as before", x, 21, PACKET);
    }

    private static void refusedWhole() {
        Craft x = nearlyFull();
        segment(x, 0, Lander.FIRST, Lander.part(PACKET, 0, 30));
        segment(x, 1, Lander.WHOLE, Lander.packet(5, 58));
        Due.equal("refused", x.report(), 0xA601);
        x.send(0);
        segment(x, 1, Lander.LAST, Lander.part(PACKET, 30, 60));
        Due.equal("the part that was begun goes on", x.packet(21, 1), 60);
        Due.equal("report", x.report(), 0x8602);
    }

    private static void expeditedWithoutRoom() {
        Craft x = nearlyFull();
        expedited(x, Lander.FIRST, Lander.part(PACKET, 0, 30));
        expedited(x, Lander.LAST, Lander.part(PACKET, 30, 60));
        Due.equal("no room", x.store(0), 22);
        x.send(0);
        expedited(x, Lander.LAST, Lander.part(PACKET, 30, 60));
        Due.equal("forgotten all the same", x.store(0), 21);
    }

    private static void notInTurn() {
        Craft x = Lander.hailed();
        segment(x, 0, Lander.FIRST, Lander.part(PACKET, 0, 30));
        segment(x, 2, Lander.FIRST, Lander.part(PACKET, 0, 10));
        segment(x, 0, Lander.FIRST, Lander.part(PACKET, 0, 20));
        segment(x, 1, Lander.LAST, Lander.part(PACKET, 30, 60));
        Due.equal("frames out of turn change no stream", x.store(0), 1);
    }

    private static void otherForms() {
        for (int form = 2; form < 4; form++) {
            Craft x = Lander.hailed();
            int[] data = Lander.join(Lander.row(Lander.WHOLE), Lander.packet(1, 7));
            Lander.give(x, Lander.frame(form << 2, 0, 0, data));
            Lander.give(x, Lander.frame(Lander.EXPEDITED | form << 2, 0, 0, data));
            Due.equal("as without data, form " + form, x.store(0), 0);
            Due.equal("report, form " + form, x.report(), 0x8101);
        }
    }
}
