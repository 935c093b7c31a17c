/** What the tests share: how an answer is held against the due one, and plain ways to make pictures and bytes. */
class Checks {
    private static int wrong = 0;
    private static int checks = 0;

    /** A call that answers, or throws. */
    interface Call {
        long answer();
    }

    /** A call of an object that the test makes itself. */
    interface CallOf {
        long answer(FractalMaps m);
    }

    /** How an object comes to be in a state. */
    interface Making {
        FractalMaps made();
    }

    static void end() {
        System.out.println(wrong == 0 ? checks + " checks, all as due" : wrong + " of " + checks + " not as due");
        if (wrong != 0) {
            System.exit(1);
        }
    }

    static void due(String name, long got, long want) {
        dueText(name, Long.toString(got), Long.toString(want));
    }

    static void dueText(String name, String got, String want) {
        checks++;
        if (!got.equals(want)) {
            wrong++;
            System.out.println(name + ": answered " + got + ", due is " + want);
        }
    }

    static void index(String name, Call call) {
        thrown(name, IndexOutOfBoundsException.class, call);
    }

    static void argument(String name, Call call) {
        thrown(name, IllegalArgumentException.class, call);
    }

    static void state(String name, Call call) {
        thrown(name, IllegalStateException.class, call);
    }

    static void unsupported(String name, Call call) {
        thrown(name, UnsupportedOperationException.class, call);
    }

    static void thrown(String name, Class<?> want, Call call) {
        dueText(name, answerOf(call), "throws." + want.getSimpleName());
    }

    /** The class itself, not one above it: an ArrayIndexOutOfBoundsException would be the machine's. */
    static String answerOf(Call call) {
        try {
            return Long.toString(call.answer());
        } catch (RuntimeException e) {
            return "throws." + e.getClass().getSimpleName();
        }
    }

    /** A picture of side 4 that rises to the right and downward, so that every block is like the whole. */
    static FractalMaps gradient4() {
        FractalMaps m = new FractalMaps(0);
        m.paint(10, 20, 30);
        return m;
    }

    /** A picture of side 8 in which no square of 4 is like the whole. */
    static FractalMaps rough8() {
        FractalMaps m = new FractalMaps(1);
        noise(m);
        return m;
    }

    /** Every fourth sample, in a side of 32, so that an object's 512 calls do for it; else every one. */
    static void noise(FractalMaps m) {
        int side = m.told(0);
        int step = side == 32 ? 2 : 1;
        m.paint(90, 2, 1);
        int seed = 12345;
        for (int y = 0; y < side; y += step) {
            for (int x = 0; x < side; x += step) {
                seed = seed * 1103515245 + 12345;
                m.put(x, y, seed >>> 16 & 255);
            }
        }
    }

    static void square(FractalMaps m, int left, int top, int size, int v) {
        for (int i = 0; i < size * size; i++) {
            m.put(left + i % size, top + i / size, v);
        }
    }

    /** Of side 4: the upper left block by its four samples, the others even, so that the half is told by them. */
    static FractalMaps blockAndThree(int[] block, int upperRight, int lowerLeft, int lowerRight) {
        FractalMaps m = new FractalMaps(0);
        for (int i = 0; i < 4; i++) {
            m.put(i % 2, i / 2, block[i]);
        }
        square(m, 2, 0, 2, upperRight);
        square(m, 0, 2, 2, lowerLeft);
        square(m, 2, 2, 2, lowerRight);
        return m;
    }

    static void feedBits(FractalMaps m, String text) {
        String bits = text.replace(" ", "");
        for (int i = 0; i < bits.length(); i += 8) {
            m.feed(Integer.parseInt((bits + "0000000").substring(i, i + 8), 2));
        }
    }

    /** A number in so many bits; none for a width of 0. */
    static String number(int v, int width) {
        StringBuilder text = new StringBuilder();
        for (int place = width - 1; place >= 0; place--) {
            text.append(v >> place & 1);
        }
        return text.toString();
    }

    /** What stands behind a square that is not split. */
    static String fit(int domainBits, int domain, int turn, int contrast, int offset) {
        return number(domain, domainBits) + number(turn, 3) + number(contrast + 7, 4) + number(offset + 256, 10);
    }

    static void bitsAre(String name, FractalMaps m, String text) {
        String bits = text.replace(" ", "");
        int bytes = (bits.length() + 7) / 8;
        int have = m.told(2);
        due(name + ", bytes", have, bytes);
        for (int i = 0; i < bytes && i < have; i++) {
            int byteDue = Integer.parseInt((bits + "0000000").substring(8 * i, 8 * i + 8), 2);
            due(name + ", byte " + i, m.byteAt(i), byteDue);
        }
    }

    static void facts(String name, FractalMaps m, int k, int... facts) {
        for (int what = 0; what < 8; what++) {
            due(name + ", what " + what, m.block(k, what), facts[what]);
        }
    }

    /** All that can be seen of an object of side 4, what is to be read at last, because looking at it takes it. */
    static String allOf(FractalMaps m) {
        StringBuilder all = new StringBuilder();
        for (int what = -1; what <= 5; what++) {
            all.append(m.told(what)).append(' ');
        }
        all.append("tried ").append(m.tried()).append(" missed ").append(answerOf(() -> m.missed()));
        appendBlocks(all, m);
        all.append(" bytes");
        int bytes = m.told(2);
        for (int i = 0; i < bytes; i++) {
            all.append(' ').append(m.byteAt(i));
        }
        all.append(" decoded");
        int side = m.told(4);
        for (int i = 0; i < side * side; i++) {
            all.append(' ').append(m.at(i % side, i / side));
        }
        all.append(" picture");
        for (int i = 0; i < 16; i++) {
            int sample = m.put(i % 4, i / 4, 0);
            m.put(i % 4, i / 4, sample);
            all.append(' ').append(sample);
        }
        all.append(" read ").append(m.read());
        appendBlocks(all, m);
        return all.toString();
    }

    private static void appendBlocks(StringBuilder all, FractalMaps m) {
        all.append(" blocks");
        int blocks = m.told(1);
        for (int k = 0; k < blocks; k++) {
            for (int what = 0; what < 8; what++) {
                all.append(' ').append(m.block(k, what));
            }
        }
    }
}
