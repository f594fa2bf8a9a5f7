import java.util.Arrays;

/** An orbiter that takes packets from a lander and hands them on to Earth. */
public final class RelayOrbiter {
    private static final int SPACECRAFT = 77;
    private static final int MOST_MINUTES = 1000;
    private static final int MOST_WORD_BYTES = 4;
    private static final int MOST_WRITES = 100;

    private final Window landerWindow;
    private final Window earthWindow;
    private final Store memory;
    private final Session session;
    private final LanderLink landerLink;
    private final EarthLink earthLink;
    private int now;

    public RelayOrbiter() {
        landerWindow = new Window();
        earthWindow = new Window();
        memory = new Store();
        session = new Session(memory);
        landerLink = new LanderLink();
        earthLink = new EarthLink();
        now = 0;
    }

    public void window(int which, int shift, int period, int length) throws IllegalArgumentException {
        if (isNoPair(which) || shift < 0 || period < 1 || length < 0) {
            throw new IllegalArgumentException();
        }
        windowOf(which).set(shift, period, length);
    }

    public int minute(int n) throws IllegalArgumentException {
        if (n < 1 || n > MOST_MINUTES) {
            throw new IllegalArgumentException();
        }
        now += n;
        return now;
    }

    public boolean seen(int which) throws IllegalArgumentException {
        if (isNoPair(which)) {
            throw new IllegalArgumentException();
        }
        return windowOf(which).isOpen(now);
    }

    public int receive(int word, int n) throws UnsupportedOperationException, IllegalArgumentException {
        if (memory.out) {
            throw new UnsupportedOperationException();
        }
        if (n < 1 || n > MOST_WORD_BYTES) {
            throw new IllegalArgumentException();
        }
        int taken = 0;
        for (int k = n - 1; k >= 0 && !memory.out; k--) {
            landerLink.put((word >>> (8 * k)) & 255);
            taken += takeFrames();
        }
        return taken;
    }

    public int report() throws UnsupportedOperationException {
        if (memory.out) {
            throw new UnsupportedOperationException();
        }
        return session.reportWord();
    }

    public int send(int channel)
            throws UnsupportedOperationException, IllegalArgumentException, IllegalStateException {
        if (memory.out) {
            throw new UnsupportedOperationException();
        }
        if (isNoPair(channel)) {
            throw new IllegalArgumentException();
        }
        if (!earthWindow.isOpen(now)) {
            throw new IllegalStateException();
        }
        return earthLink.emit(channel, memory);
    }

    public int sent(int i) throws IndexOutOfBoundsException {
        if (!earthLink.hasByte(i)) {
            throw new IndexOutOfBoundsException();
        }
        return earthLink.frame[i];
    }

    public void fail(int writes) throws UnsupportedOperationException, IllegalArgumentException {
        if (memory.out) {
            throw new UnsupportedOperationException();
        }
        if (writes < 1 || writes > MOST_WRITES) {
            throw new IllegalArgumentException();
        }
        memory.writesLeft = writes;
    }

    public int power() {
        memory.restart();
        session.restart();
        landerLink.forgetAll();
        return memory.count;
    }

    public boolean out() {
        return memory.out;
    }

    public int store(int what) throws IllegalArgumentException {
        switch (what) {
            case 0: return memory.count;
            case 1: return memory.freeBlocks;
            case 2: return memory.entries;
            case 3: return memory.writes;
            default: throw new IllegalArgumentException();
        }
    }

    public int packet(int i, int what) throws IndexOutOfBoundsException, IllegalArgumentException {
        if (!memory.has(i)) {
            throw new IndexOutOfBoundsException();
        }
        Packet asked = memory.packets[i];
        switch (what) {
            case 0: return asked.number;
            case 1: return asked.length;
            case 2: return asked.apid;
            case 3: return asked.blocks[0];
            case 4: return asked.emitted;
            default: throw new IllegalArgumentException();
        }
    }

    public int content(int i, int k) throws IndexOutOfBoundsException {
        if (!memory.has(i) || k < 0 || k >= memory.packets[i].length) {
            throw new IndexOutOfBoundsException();
        }
        return memory.byteOf(memory.packets[i], k);
    }

    private static boolean isNoPair(int which) {
        return which != 0 && which != 1;
    }

    private Window windowOf(int which) {
        return which == 0 ? landerWindow : earthWindow;
    }

    private int takeFrames() {
        int taken = 0;
        // Each step gives up a byte at least, so a full row bounds the steps.
        for (int step = 0; step < LanderLink.ROOM && !memory.out; step++) {
            int look = landerLink.look();
            if (look == LanderLink.WAIT) {
                break;
            }
            if (look == LanderLink.NOTHING_HERE) {
                landerLink.giveUp(1);
            } else {
                landerLink.takeFrame();
                taken++;
                if (landerWindow.isOpen(now)) {
                    session.heed(landerLink.frame);
                }
            }
        }
        return taken;
    }

    /**
     * The check over bytes: a row of bits, shifted up once for each bit. Bits above the width
     * gather without ever being looked at; the caller cuts them off.
     */
    private static int check(int[] bytes, int from, int end, int width, int first, int pattern) {
        int row = first;
        for (int i = from; i < end && i < bytes.length; i++) {
            for (int bit = 7; bit >= 0; bit--) {
                int chosen = ((row >>> (width - 1)) ^ (bytes[i] >>> bit)) & 1;
                row <<= 1;
                if (chosen == 1) {
                    row ^= pattern;
                }
            }
        }
        return row;
    }

    /** When one side is seen. */
    private static final class Window {
        private int shift = 0;
        private int period = 1;
        private int length = 1;

        void set(int newShift, int newPeriod, int newLength) {
            shift = newShift;
            period = newPeriod;
            length = newLength;
        }

        boolean isOpen(int minute) {
            // The shift may be so great that the sum passes an int.
            return ((long) minute + shift) % period < length;
        }
    }

    /** A frame from the lander, as it was taken: its length is 5 .. 64. */
    private static final class Frame {
        static final int LEAST = 5;
        static final int MOST = 64;
        static final int PACKETS = 0;
        static final int SEGMENT = 1;

        private final int[] bytes = new int[MOST];
        private int length = LEAST;

        void copy(int[] from, int start, int newLength) {
            length = Math.max(LEAST, Math.min(MOST, newLength));
            System.arraycopy(from, start, bytes, 0, length);
        }

        boolean isExpedited() {
            return (bytes[0] & 32) != 0;
        }

        boolean isDirective() {
            return (bytes[0] & 16) != 0;
        }

        int form() {
            return (bytes[0] >> 2) & 3;
        }

        int spacecraft() {
            return (bytes[0] & 3) * 256 + bytes[1];
        }

        int channel() {
            return bytes[2] >> 7;
        }

        int number() {
            return bytes[4];
        }

        int dataLength() {
            return length - LEAST;
        }

        int data(int k) {
            return k >= 0 && k < length - LEAST ? bytes[LEAST + k] : 0;
        }
    }

    /** The row of bytes from the lander, from where frames are still looked for. */
    private static final class LanderLink {
        static final int WAIT = 0;
        static final int NOTHING_HERE = -1;
        static final int MARK_BYTES = 3;
        static final int CHECK_BYTES = 4;
        static final int ROOM = MARK_BYTES + Frame.MOST + CHECK_BYTES;
        private static final int[] MARK = {250, 243, 32};
        private static final int CHECK_PATTERN = 10487813;

        private final int[] row = new int[ROOM];
        private final Frame frame = new Frame();
        private int length = 0;

        void put(int value) {
            if (length < ROOM) {
                row[length] = value;
                length++;
            }
        }

        void forgetAll() {
            length = 0;
        }

        void giveUp(int bytes) {
            int gone = Math.min(bytes, length);
            System.arraycopy(row, gone, row, 0, length - gone);
            length -= gone;
        }

        /** What stands at the row's beginning: WAIT, NOTHING_HERE, or a whole frame's length. */
        int look() {
            for (int k = 0; k < MARK_BYTES; k++) {
                if (length <= k) {
                    return WAIT;
                }
                if (row[k] != MARK[k]) {
                    return NOTHING_HERE;
                }
            }
            if (length <= MARK_BYTES) {
                return WAIT;
            }
            if (row[MARK_BYTES] >> 6 != 2) {
                return NOTHING_HERE;
            }
            if (length <= MARK_BYTES + 3) {
                return WAIT;
            }
            int told = toldLength();
            if (told < Frame.LEAST || told > Frame.MOST) {
                return NOTHING_HERE;
            }
            if (length < MARK_BYTES + told + CHECK_BYTES) {
                return WAIT;
            }
            return checkHolds(told) ? told : NOTHING_HERE;
        }

        /** To be called only where look() has told a whole frame. */
        void takeFrame() {
            int told = toldLength();
            frame.copy(row, MARK_BYTES, told);
            giveUp(MARK_BYTES + told + CHECK_BYTES);
        }

        private int toldLength() {
            return (row[MARK_BYTES + 2] & 7) * 256 + row[MARK_BYTES + 3] + 1;
        }

        private boolean checkHolds(int told) {
            int end = MARK_BYTES + told;
            int due = check(row, MARK_BYTES, end, 32, 0, CHECK_PATTERN);
            int got = row[end] << 24 | row[end + 1] << 16 | row[end + 2] << 8 | row[end + 3];
            return due == got;
        }
    }

    /** A row of bytes that one data frame brings to an end, and the packets found in it. */
    private static final class Harvest {
        static final int MOST_PACKETS = Packet.MOST / Packet.LEAST;

        private final int[] row = new int[Packet.MOST];
        private final int[] starts = new int[MOST_PACKETS];
        private final int[] lengths = new int[MOST_PACKETS];
        private int length = 0;
        private int count = 0;

        void clear() {
            length = 0;
            count = 0;
        }

        void append(int value) {
            if (length < Packet.MOST) {
                row[length] = value;
                length++;
            }
        }

        void findPackets() {
            int at = 0;
            for (int k = 0; k < MOST_PACKETS; k++) {
                int found = packetLengthAt(at);
                if (found == 0) {
                    return;
                }
                starts[count] = at;
                lengths[count] = found;
                count++;
                at += found;
            }
        }

        void findOneWholePacket() {
            if (length > 0 && packetLengthAt(0) == length) {
                starts[0] = 0;
                lengths[0] = length;
                count = 1;
            }
        }

        int blocksOfAll() {
            int blocks = 0;
            for (int k = 0; k < count; k++) {
                blocks += Store.blocksFor(lengths[k]);
            }
            return blocks;
        }

        /** 0 if what begins there is no packet, or does not end in the row. */
        private int packetLengthAt(int at) {
            if (length - at < Packet.LEAST || row[at] < 8 || row[at] > 15) {
                return 0;
            }
            int told = row[at + 4] * 256 + row[at + 5] + Packet.LEAST;
            return told <= length - at ? told : 0;
        }
    }

    /** The part of a packet that segments have brought so far. */
    private static final class Stream {
        private final int[] part = new int[Packet.MOST];
        private int length = 0;
        private boolean begun = false;

        void forget() {
            begun = false;
            length = 0;
        }

        void hold(Harvest harvest) {
            begun = true;
            length = harvest.length;
            System.arraycopy(harvest.row, 0, part, 0, length);
        }
    }

    /** The session with the lander: what its frames bring about. */
    private static final class Session {
        private static final int HAIL = 1;
        private static final int END = 2;
        private static final int SET = 3;
        private static final int STREAMS = 4;
        private static final int MOST_AHEAD = 127;

        private final Store memory;
        private final Harvest harvest = new Harvest();
        private final Stream[] streams = new Stream[STREAMS];
        private boolean on = false;
        private int channel = 0;
        private int expected = 0;
        private boolean retransmit = false;
        private int expeditedCount = 0;
        // What a segment does to its stream waits here until the frame is known to count.
        private Stream touched = null;
        private boolean touchedGoesOn = false;

        Session(Store memory) {
            this.memory = memory;
            for (int k = 0; k < STREAMS; k++) {
                streams[k] = new Stream();
            }
        }

        void restart() {
            on = false;
            forgetSegments();
        }

        int reportWord() {
            if (!on) {
                return 0;
            }
            return 1 << 15 | (retransmit ? 1 << 13 : 0) | channel << 12 | expeditedCount << 8 | expected;
        }

        void heed(Frame frame) {
            if (frame.spacecraft() != SPACECRAFT) {
                return;
            }
            if (frame.isDirective()) {
                obey(frame);
            } else if (isOnFor(frame)) {
                gather(frame);
                if (frame.isExpedited() ? admitExpedited() : admitSequenced(frame.number())) {
                    settleStream();
                    keepWhatFits();
                }
            }
        }

        private boolean isOnFor(Frame frame) {
            return on && frame.channel() == channel;
        }

        private void obey(Frame frame) {
            if (frame.dataLength() < 2) {
                return;
            }
            switch (frame.data(0)) {
                case HAIL:
                    begin(frame.channel());
                    break;
                case END:
                    on = false;
                    break;
                case SET:
                    if (isOnFor(frame)) {
                        expected = frame.data(1);
                        retransmit = false;
                    }
                    break;
                default:
                    break;
            }
        }

        private void begin(int newChannel) {
            on = true;
            channel = newChannel;
            expected = 0;
            retransmit = false;
            expeditedCount = 0;
            forgetSegments();
        }

        private void forgetSegments() {
            for (int k = 0; k < STREAMS; k++) {
                streams[k].forget();
            }
        }

        private boolean admitExpedited() {
            expeditedCount = (expeditedCount + 1) & 7;
            return true;
        }

        private boolean admitSequenced(int number) {
            int ahead = (number - expected) & 255;
            if (ahead > MOST_AHEAD) {
                return false;
            }
            boolean admitted = ahead == 0 && memory.hasRoom(harvest.blocksOfAll());
            retransmit = !admitted;
            if (admitted) {
                expected = (expected + 1) & 255;
            }
            return admitted;
        }

        // Of a sequenced frame all packets fit here: it has been refused otherwise.
        private void keepWhatFits() {
            for (int k = 0; k < harvest.count; k++) {
                memory.add(harvest.row, harvest.starts[k], harvest.lengths[k]);
            }
        }

        private void gather(Frame frame) {
            harvest.clear();
            touched = null;
            if (frame.form() == Frame.PACKETS) {
                appendData(frame, 0);
                harvest.findPackets();
            } else if (frame.form() == Frame.SEGMENT && frame.dataLength() > 0) {
                gatherSegment(frame);
            }
        }

        private void gatherSegment(Frame frame) {
            boolean begins = (frame.data(0) & 64) != 0;
            boolean ends = (frame.data(0) & 128) != 0;
            int number = frame.data(0) & 63;
            if (number >= STREAMS) {
                return;
            }
            touched = streams[number];
            touchedGoesOn = false;
            if (!begins) {
                if (!touched.begun || touched.length + frame.dataLength() - 1 > Packet.MOST) {
                    return;
                }
                for (int k = 0; k < touched.length; k++) {
                    harvest.append(touched.part[k]);
                }
            }
            appendData(frame, 1);
            touchedGoesOn = !ends;
            if (ends) {
                harvest.findOneWholePacket();
            }
        }

        private void appendData(Frame frame, int from) {
            for (int k = from; k < frame.dataLength(); k++) {
                harvest.append(frame.data(k));
            }
        }

        private void settleStream() {
            if (touched == null) {
                return;
            }
            if (touchedGoesOn) {
                touched.hold(harvest);
            } else {
                touched.forget();
            }
        }
    }

    /** A packet in the store, or a place where the next one will be told of. */
    private static final class Packet {
        static final int LEAST = 7;
        static final int MOST = 60;

        private final int[] blocks = new int[Store.blocksFor(MOST)];
        private int number = 0;
        private int length = 0;
        private int apid = 0;
        private int emitted = 0;
    }

    /**
     * Blocks and a journal that outlive a loss of power. Of the journal only the size is held:
     * the packets change at the very write of an entry, so they always are what it tells.
     */
    private static final class Store {
        static final int BLOCKS = 24;
        static final int BLOCK_BYTES = 20;
        static final int MOST_ENTRIES = 40;

        private final int[] bytes = new int[BLOCKS * BLOCK_BYTES];
        private final boolean[] used = new boolean[BLOCKS];
        // The first ones, as many as count says, are in the store; the others wait to be used again.
        private final Packet[] packets = new Packet[BLOCKS];
        private int count = 0;
        private int freeBlocks = BLOCKS;
        private int nextNumber = 0;
        private int entries = 0;
        private int writes = 0;
        // 0: power is not about to fail.
        private int writesLeft = 0;
        private boolean out = false;

        Store() {
            for (int k = 0; k < BLOCKS; k++) {
                packets[k] = new Packet();
            }
        }

        static int blocksFor(int length) {
            return (length + BLOCK_BYTES - 1) / BLOCK_BYTES;
        }

        boolean hasRoom(int blocks) {
            return blocks <= freeBlocks;
        }

        boolean has(int i) {
            return i >= 0 && i < count;
        }

        int byteOf(Packet packet, int k) {
            return bytes[packet.blocks[k / BLOCK_BYTES] * BLOCK_BYTES + k % BLOCK_BYTES];
        }

        void restart() {
            out = false;
            writesLeft = 0;
            for (int i = 0; i < count; i++) {
                packets[i].emitted = 0;
            }
        }

        /** Stores a packet, if there is room; as far as power lasts. */
        void add(int[] from, int start, int length) {
            if (out || count >= BLOCKS || !hasRoom(blocksFor(length))) {
                return;
            }
            Packet packet = packets[count];
            packet.length = length;
            packet.apid = (from[start] & 7) * 256 + from[start + 1];
            packet.emitted = 0;
            writeBlocks(packet, from, start);
            renewFullJournal();
            enterAdded(packet);
        }

        void dropEmitted() {
            int i = 0;
            for (int left = count; left > 0 && !out; left--) {
                if (packets[i].emitted == packets[i].length) {
                    renewFullJournal();
                    enterDropped(i);
                } else {
                    i++;
                }
            }
        }

        // Blocks count as used only from the entry on: those of a packet that power cut off stay free.
        private void writeBlocks(Packet packet, int[] from, int start) {
            int at = 0;
            for (int block = 0; block < BLOCKS && at < packet.length && !out; block++) {
                if (!used[block]) {
                    int part = Math.min(BLOCK_BYTES, packet.length - at);
                    System.arraycopy(from, start + at, bytes, block * BLOCK_BYTES, part);
                    packet.blocks[at / BLOCK_BYTES] = block;
                    at += BLOCK_BYTES;
                    write();
                }
            }
        }

        private void renewFullJournal() {
            if (!out && entries >= MOST_ENTRIES) {
                entries = count;
                write();
            }
        }

        private void enterAdded(Packet packet) {
            if (out) {
                return;
            }
            entries++;
            packet.number = nextNumber;
            nextNumber++;
            count++;
            markBlocks(packet, true);
            write();
        }

        private void enterDropped(int i) {
            if (out) {
                return;
            }
            entries++;
            Packet packet = packets[i];
            markBlocks(packet, false);
            count--;
            for (int k = i; k < count; k++) {
                packets[k] = packets[k + 1];
            }
            packets[count] = packet;
            write();
        }

        private void markBlocks(Packet packet, boolean nowUsed) {
            int blocks = blocksFor(packet.length);
            for (int k = 0; k < blocks; k++) {
                used[packet.blocks[k]] = nowUsed;
            }
            freeBlocks += nowUsed ? -blocks : blocks;
        }

        private void write() {
            writes++;
            if (writesLeft > 0) {
                writesLeft--;
                out = writesLeft == 0;
            }
        }
    }

    /** The frames to Earth: the latest one, and how many each channel has had. */
    private static final class EarthLink {
        private static final int FRAME_BYTES = 32;
        private static final int ZONE = 8;
        private static final int ZONE_END = 30;
        private static final int FILL = 85;
        private static final int NONE_BEGINS = 2047;
        private static final int NO_PACKET = 2046;
        private static final int FIRST_ID = 16384 + 64 * SPACECRAFT;
        private static final int CHECK_FIRST = 65535;
        private static final int CHECK_PATTERN = 4129;

        private final int[] frame = new int[FRAME_BYTES];
        private final int[] counts = new int[2];
        private boolean any = false;

        boolean hasByte(int i) {
            return any && i >= 0 && i < FRAME_BYTES;
        }

        int emit(int channel, Store memory) {
            int count = counts[channel];
            counts[channel]++;
            any = true;
            putNumber(FIRST_ID + channel, 0, 2);
            putNumber(count, 2, 3);
            putNumber(0, 5, 1);
            putNumber(fillZone(channel, memory), 6, 2);
            putNumber(check(frame, 0, ZONE_END, 16, CHECK_FIRST, CHECK_PATTERN), ZONE_END, 2);
            memory.dropEmitted();
            return count;
        }

        private void putNumber(int number, int at, int size) {
            for (int k = 0; k < size; k++) {
                frame[at + k] = (number >>> (8 * (size - 1 - k))) & 255;
            }
        }

        /** The answer is the pointer. */
        private int fillZone(int channel, Store memory) {
            Arrays.fill(frame, ZONE, ZONE_END, FILL);
            int pointer = NO_PACKET;
            int at = ZONE;
            for (int i = 0; i < memory.count && at < ZONE_END; i++) {
                Packet packet = memory.packets[i];
                if (packet.apid % 2 == channel) {
                    pointer = pointerWith(packet, at - ZONE, pointer);
                    at = emitPart(packet, at, memory);
                }
            }
            return pointer;
        }

        private static int pointerWith(Packet packet, int place, int pointer) {
            boolean noneHasBegun = pointer == NO_PACKET || pointer == NONE_BEGINS;
            if (packet.emitted == 0) {
                return noneHasBegun ? place : pointer;
            }
            return noneHasBegun ? NONE_BEGINS : pointer;
        }

        private int emitPart(Packet packet, int from, Store memory) {
            int at = from;
            while (at < ZONE_END && packet.emitted < packet.length) {
                frame[at] = memory.byteOf(packet, packet.emitted);
                packet.emitted++;
                at++;
            }
            return at;
        }
    }
}
