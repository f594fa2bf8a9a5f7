/** Terms: bytes and packets. */
public final class PacketSentencesTest {
    public static void main(String[] args) {
        Sentence.in("Terms");
        Sentence.says("BYTES are 0 .. 255", PacketSentencesTest::bytesAre0To255);
        Sentence.says("numbers of several bytes have the highest first", PacketSentencesTest::highestByteFirst);
        Sentence.says("A PACKET has 7 .. 60 bytes", PacketSentencesTest::aPacketHas7To60Bytes);
        Sentence.says("bytes 0, 1: 8 times 256 and the APID, 0 .. 2047, together", PacketSentencesTest::apid0To2047);
        Sentence.says("(so byte 0 is 8 .. 15)", PacketSentencesTest::byte0Is8To15);
        Sentence.says("2, 3: any", PacketSentencesTest::bytes2And3AreAny);
        Sentence.says("4, 5: its length less 7", PacketSentencesTest::bytes4And5AreTheLengthLess7);
        Sentence.says("others: any", PacketSentencesTest::otherBytesAreAny);
        Due.end();
    }

    /** How many packets come of a whole segment's part. */
    private static int storedOfWhole(int... part) {
        Craft x = Lander.hailed();
        Lander.give(x, Lander.segment(Lander.SEQUENCED, 0, Lander.WHOLE, part));
        return x.store(0);
    }

    /** How many packets come of a frame of packets. */
    private static int storedOfPackets(int... data) {
        Craft x = Lander.hailed();
        Lander.give(x, Lander.sequenced(0, data));
        return x.store(0);
    }

    private static void storedWith(int place, int value) {
        int[] packet = Lander.packet(2, 20);
        packet[place] = value;
        Craft x = Lander.hailed();
        Lander.give(x, Lander.sequenced(0, packet));
        Due.equal("stored with " + value + " at " + place, x.store(0), 1);
        Due.equal("content of " + place, x.content(0, place), value);
        x.send(0);
        Due.equal("sent of " + place, x.sent(8 + place), value);
    }

    private static void bytesAre0To255() {
        for (int value : new int[] {0, 1, 127, 128, 254, 255}) {
            storedWith(19, value);
        }
    }

    private static void highestByteFirst() {
        int[] packet = Lander.packet(0x102, 8);
        Craft x = Lander.hailed();
        Lander.give(x, Lander.sequenced(0, packet));
        Due.equal("stored with 0, 1 at 4, 5", x.store(0), 1);
        Due.equal("APID of 9, 2", x.packet(0, 2), 0x102);
        packet[4] = 1;
        packet[5] = 0;
        Due.equal("stored with 1, 0 at 4, 5", storedOfWhole(packet), 0);
    }

    /** The bytes of a packet of any length, also of one that can't be. */
    private static int[] rowOf(int length) {
        int[] row = Lander.part(Lander.packet(5, 70), 0, length);
        if (length > 5) {
            row[4] = (length - 7) >> 8 & 255;
            row[5] = (length - 7) & 255;
        }
        return row;
    }

    private static void aPacketHas7To60Bytes() {
        for (int length = 0; length <= 62; length++) {
            int want = length >= 7 && length <= 60 ? 1 : 0;
            Craft x = Lander.hailed();
            Lander.giveInTwo(x, rowOf(length));
            Due.equal("stored of two segments with " + length, x.store(0), want);
            if (want == 1) {
                Due.equal("length of " + length, x.packet(0, 1), length);
            }
            if (length <= 58) {
                Due.equal("stored of a whole segment with " + length, storedOfWhole(rowOf(length)), want);
                Due.equal("stored of packets with " + length, storedOfPackets(rowOf(length)), want);
            }
        }
    }

    private static void apid0To2047() {
        for (int apid : new int[] {0, 1, 255, 256, 1791, 1792, 2046, 2047}) {
            Craft x = Lander.hailed();
            Lander.give(x, Lander.sequenced(0, Lander.packet(apid, 7)));
            Due.equal("stored of APID " + apid, x.store(0), 1);
            Due.equal("APID", x.packet(0, 2), apid);
        }
        Due.equal("2048 is none", storedOfPackets(Lander.packet(2048, 7)), 0);
    }

    private static void byte0Is8To15() {
        for (int value = 0; value < 256; value++) {
            int[] packet = Lander.packet(5, 7);
            packet[0] = value;
            int want = value >= 8 && value <= 15 ? 1 : 0;
            Due.equal("stored of packets, byte 0 is " + value, storedOfPackets(packet), want);
            Due.equal("stored of a whole segment, byte 0 is " + value, storedOfWhole(packet), want);
        }
    }

    private static void bytes2And3AreAny() {
        for (int value : new int[] {0, 8, 32, 128, 243, 250, 255}) {
            storedWith(2, value);
            storedWith(3, value);
        }
    }

    private static void bytes4And5AreTheLengthLess7() {
        for (int told = 7; told <= 60; told++) {
            int[] packet = Lander.packet(5, 20);
            packet[5] = told - 7;
            Due.equal("20 bytes, whole, told " + told, storedOfWhole(packet), told == 20 ? 1 : 0);
            if (told >= 20) {
                Due.equal("20 bytes, packets, told " + told, storedOfPackets(packet), told == 20 ? 1 : 0);
            }
        }
        for (int high : new int[] {1, 2, 128, 255}) {
            int[] packet = Lander.packet(5, 20);
            packet[4] = high;
            Due.equal("byte 4 is " + high + ", whole", storedOfWhole(packet), 0);
            Due.equal("byte 4 is " + high + ", packets", storedOfPackets(packet), 0);
        }
    }

    private static void otherBytesAreAny() {
        for (int place = 6; place < 20; place++) {
            storedWith(place, 0);
            storedWith(place, 255);
        }
    }
}
