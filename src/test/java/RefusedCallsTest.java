import java.util.ArrayList;
import java.util.List;

/**
 * "A call that throws changes nothing", "Of several that a call names, the first one", and that a refused reading
 * leaves all but what was to be read: every refused call, in each of some states, seen as a whole before and after.
 */
public final class RefusedCallsTest extends Checks {
    private static final int MOST = Integer.MAX_VALUE;
    private static final int LEAST = Integer.MIN_VALUE;
    private static final String INDEX = "throws.IndexOutOfBoundsException";
    private static final String ARGUMENT = "throws.IllegalArgumentException";
    private static final String STATE = "throws.IllegalStateException";
    private static final String UNSUPPORTED = "throws.UnsupportedOperationException";

    private static final List<Making> STATES = new ArrayList<>();

    public static void main(String[] args) {
        STATES.add(() -> new FractalMaps(0));
        STATES.add(() -> encoded());
        STATES.add(() -> decoded(0));
        STATES.add(() -> decoded(1));
        STATES.add(() -> readLast());
        STATES.add(() -> full());
        STATES.add(() -> cleared());
        for (int i = 0; i < STATES.size(); i++) {
            Making making = STATES.get(i);
            FractalMaps m = making.made();
            int blocks = m.told(1);
            int bytes = m.told(2);
            int side = m.told(4);
            int waiting = m.told(3);
            put(i, making);
            encode(i, making);
            block(i, making, blocks);
            byteAt(i, making, bytes);
            feedAndPass(i, making, waiting, bytes);
            decode(i, making, blocks);
            at(i, making, side);
            missed(i, making, side);
            domain(i, making);
            kind(i, making);
            refusedReading(i, making);
        }
        end();
    }

    private static FractalMaps encoded() {
        FractalMaps m = gradient4();
        m.encode(2, 0);
        m.feed(200);
        m.paint(9, 50, 1);
        return m;
    }

    private static FractalMaps decoded(int size) {
        FractalMaps m = encoded();
        m.decode(3, size);
        m.pass();
        return m;
    }

    private static FractalMaps readLast() {
        FractalMaps m = gradient4();
        m.encode(2, 0);
        feedBits(m, "001" + fit(0, 0, 1, -7, 200) + fit(0, 0, 2, 6, 3) + fit(0, 0, 3, 0, 9) + fit(0, 0, 4, 1, 1));
        m.read();
        m.decode(2, 0);
        m.pass();
        return m;
    }

    /** 2000 bytes are to be read. */
    private static FractalMaps full() {
        FractalMaps m = gradient4();
        m.encode(2, 0);
        m.decode(1, 0);
        m.pass();
        for (int i = 1; i < 222; i++) {
            m.pass();
        }
        m.feed(1);
        m.feed(2);
        due("full", m.told(3), 2000);
        return m;
    }

    private static FractalMaps cleared() {
        FractalMaps m = decoded(1);
        m.clear();
        m.put(1, 2, 3);
        return m;
    }

    private static void put(int i, Making making) {
        int[][] places = {{-1, 0}, {0, -1}, {4, 0}, {0, 4}, {LEAST, 0}, {0, MOST}, {MOST, MOST}, {5, -1}};
        for (int[] place : places) {
            for (int v : new int[] {0, 77, -1, 256, LEAST, MOST}) {
                refused(i, "put " + place[0] + " " + place[1] + " " + v, INDEX, making, m -> m.put(place[0], place[1], v));
            }
        }
        for (int v : new int[] {-1, 256, LEAST, MOST}) {
            refused(i, "put " + v, ARGUMENT, making, m -> m.put(1, 2, v));
            refused(i, "put " + v, ARGUMENT, making, m -> m.put(3, 3, v));
        }
    }

    private static void encode(int i, Making making) {
        for (int least : new int[] {LEAST, -2, 0, 1, 3, 4, 8, 16, 32, MOST}) {
            for (int bound : new int[] {0, MOST, -1, LEAST}) {
                refused(i, "encode " + least + " " + bound, ARGUMENT, making, m -> m.encode(least, bound));
            }
        }
        refused(i, "encode 2 -1", ARGUMENT, making, m -> m.encode(2, -1));
        refused(i, "encode 2 LEAST", ARGUMENT, making, m -> m.encode(2, LEAST));
    }

    private static void block(int i, Making making, int blocks) {
        for (int k : new int[] {LEAST, -1, blocks, blocks + 1, MOST, 1 << 29}) {
            for (int what : new int[] {0, 7, -1, 8, LEAST, MOST}) {
                refused(i, "block " + k + " " + what, INDEX, making, m -> m.block(k, what));
            }
        }
        for (int what : new int[] {-1, 8, LEAST, MOST}) {
            refused(i, "block 0 " + what, blocks > 0 ? ARGUMENT : INDEX, making, m -> m.block(0, what));
            refused(i, "block 3 " + what, blocks > 0 ? ARGUMENT : INDEX, making, m -> m.block(3, what));
        }
    }

    private static void byteAt(int i, Making making, int bytes) {
        for (int k : new int[] {LEAST, -1, bytes, bytes + 1, MOST}) {
            refused(i, "byteAt " + k, INDEX, making, m -> m.byteAt(k));
        }
    }

    private static void feedAndPass(int i, Making making, int waiting, int bytes) {
        for (int b : new int[] {-1, 256, LEAST, MOST}) {
            refused(i, "feed " + b, ARGUMENT, making, m -> m.feed(b));
        }
        if (waiting == 2000) {
            refused(i, "feed 0", UNSUPPORTED, making, m -> m.feed(0));
            refused(i, "feed 255", UNSUPPORTED, making, m -> m.feed(255));
        }
        if (waiting + bytes > 2000) {
            refused(i, "pass", UNSUPPORTED, making, m -> m.pass());
        }
    }

    private static void decode(int i, Making making, int blocks) {
        for (int rounds : new int[] {LEAST, -1, 0, 41, MOST}) {
            for (int size : new int[] {0, 1, -1, 2}) {
                refused(i, "decode " + rounds + " " + size, ARGUMENT, making, m -> m.decode(rounds, size));
            }
        }
        for (int size : new int[] {LEAST, -1, 2, MOST}) {
            refused(i, "decode 1 " + size, ARGUMENT, making, m -> m.decode(1, size));
            refused(i, "decode 40 " + size, ARGUMENT, making, m -> m.decode(40, size));
        }
        if (blocks == 0) {
            refused(i, "decode 1 0", STATE, making, m -> m.decode(1, 0));
            refused(i, "decode 40 1", STATE, making, m -> m.decode(40, 1));
        }
    }

    private static void at(int i, Making making, int side) {
        int[][] places = {{-1, 0}, {0, -1}, {side, 0}, {0, side}, {LEAST, 0}, {0, LEAST}, {MOST, 0}, {0, MOST}};
        for (int[] place : places) {
            refused(i, "at " + place[0] + " " + place[1], INDEX, making, m -> m.at(place[0], place[1]));
        }
    }

    private static void missed(int i, Making making, int side) {
        if (side != 4) {
            refused(i, "missed", STATE, making, m -> m.missed());
        }
    }

    private static void domain(int i, Making making) {
        for (int size : new int[] {LEAST, 0, 1, 3, 4, 16, 32, MOST}) {
            refused(i, "domain of " + size, ARGUMENT, making, m -> m.domain(size, 0, 0, 0, 0));
            refused(i, "domain of " + size, ARGUMENT, making, m -> m.domain(size, -1, 8, -1, 9));
        }
        for (int turn : new int[] {LEAST, -1, 8, MOST}) {
            refused(i, "turn " + turn, ARGUMENT, making, m -> m.domain(2, 0, turn, 0, 0));
            refused(i, "turn " + turn, ARGUMENT, making, m -> m.domain(2, 1, turn, 2, 2));
        }
        for (int domain : new int[] {LEAST, -1, 1, MOST}) {
            refused(i, "domain " + domain, INDEX, making, m -> m.domain(2, domain, 7, 0, 0));
        }
        for (int place : new int[] {LEAST, -1, 2, MOST}) {
            refused(i, "domain at " + place + " 0", INDEX, making, m -> m.domain(2, 0, 0, place, 0));
            refused(i, "domain at 0 " + place, INDEX, making, m -> m.domain(2, 0, 0, 0, place));
        }
    }

    private static void kind(int i, Making making) {
        for (int size : new int[] {LEAST, 0, 1, 3, 32, MOST}) {
            refused(i, "kind of " + size, ARGUMENT, making, m -> m.kind(0, 0, size));
            refused(i, "kind of " + size, ARGUMENT, making, m -> m.kind(-1, 4, size));
        }
        int[][] squares = {{-1, 0, 2}, {0, -1, 2}, {3, 0, 2}, {0, 3, 2}, {1, 0, 4}, {0, 1, 4}, {0, 0, 8}, {0, 0, 16},
            {MOST, 0, 2}, {0, MOST, 2}, {LEAST, 0, 16}, {0, LEAST, 16}};
        for (int[] s : squares) {
            refused(i, "kind " + s[0] + " " + s[1] + " " + s[2], INDEX, making, m -> m.kind(s[0], s[1], s[2]));
        }
    }

    /** The call throws what is due, and all that can be seen is as if it had not been called. */
    private static void refused(int i, String name, String due, Making making, CallOf call) {
        FractalMaps m = making.made();
        String at = "state " + i + ", " + name;
        dueText(at, answerOf(() -> call.answer(m)), due);
        dueText(at + " changes nothing", allOf(m), allOf(making.made()));
    }

    /** For each reason to refuse: all but what was to be read is as it was. */
    private static void refusedReading(int i, Making making) {
        String flat = fit(0, 0, 0, 0, 0);
        String[] wrong = {"000" + flat.repeat(4), null, "001" + fit(0, 0, 0, 8, 0) + flat.repeat(3),
            "001" + flat.repeat(3) + flat.substring(0, 10), "001" + flat.repeat(4) + "1"};
        for (int why = 0; why < 5; why++) {
            // In a side of 4 there is only one domain, told by no bits: 1 never comes.
            if (wrong[why] != null) {
                FractalMaps m = making.made();
                m.read();
                FractalMaps without = making.made();
                without.read();
                feedBits(m, wrong[why]);
                due("state " + i + " refused for " + why, m.read(), -1 - why);
                dueText("state " + i + " refused for " + why + " changes nothing", allOf(m), allOf(without));
            }
        }
    }
}
