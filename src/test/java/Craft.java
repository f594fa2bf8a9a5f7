/** The orbiter as tests use it: it counts the calls, for behind the 512th nothing is promised. */
final class Craft {
    static final int MOST_CALLS = 512;

    private final RelayOrbiter orbiter = new RelayOrbiter();
    private int calls = 0;

    int callsLeft() {
        return MOST_CALLS - calls;
    }

    private RelayOrbiter called() {
        calls++;
        if (calls == MOST_CALLS + 1) {
            Due.isTrue("a test keeps to 512 calls on one object", false);
        }
        return orbiter;
    }

    void window(int which, int shift, int period, int length) {
        called().window(which, shift, period, length);
    }

    int minute(int n) {
        return called().minute(n);
    }

    boolean seen(int which) {
        return called().seen(which);
    }

    int receive(int word, int n) {
        return called().receive(word, n);
    }

    int report() {
        return called().report();
    }

    int send(int channel) {
        return called().send(channel);
    }

    int sent(int i) {
        return called().sent(i);
    }

    void fail(int writes) {
        called().fail(writes);
    }

    int power() {
        return called().power();
    }

    boolean out() {
        return called().out();
    }

    int store(int what) {
        return called().store(what);
    }

    int packet(int i, int what) {
        return called().packet(i, what);
    }

    int content(int i, int k) {
        return called().content(i, k);
    }

    /** All that can be asked without changing anything, as one text. */
    String look() {
        StringBuilder seen = new StringBuilder();
        boolean out = out();
        seen.append("out ").append(out).append(", seen ").append(seen(0)).append(' ').append(seen(1));
        seen.append(", report ").append(out ? "none" : report()).append(", store");
        for (int what = 0; what < 4; what++) {
            seen.append(' ').append(store(what));
        }
        int packets = store(0);
        for (int i = 0; i < packets; i++) {
            seen.append(", packet");
            for (int what = 0; what < 5; what++) {
                seen.append(' ').append(packet(i, what));
            }
            int length = packet(i, 1);
            for (int k = 0; k < length; k++) {
                seen.append(k == 0 ? ": " : " ").append(content(i, k));
            }
        }
        return seen.append(", sent").append(lookAtSent()).toString();
    }

    private String lookAtSent() {
        StringBuilder bytes = new StringBuilder();
        try {
            for (int i = 0; i < 32; i++) {
                bytes.append(' ').append(sent(i));
            }
        } catch (IndexOutOfBoundsException e) {
            bytes.append(" nothing");
        }
        return bytes.toString();
    }
}
