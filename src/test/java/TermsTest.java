/** The sentences of the document's 'Terms' that name a boundary case, each with a test of its own. */
public final class TermsTest extends Checks {
    private static final int[] SIDES = {4, 8, 16, 32};

    public static void main(String[] args) {
        sideOtherNumbersCountAsTheNearest();
        samplesAreFrom0To255AtFirst0();
        divisionsAreDownward();
        halfIsRoundedByTheTwo();
        domainsLieAtMultiplesAndAreNumberedRowByRow();
        domainsAreAsManyAsThereAre();
        turnedByEachTurn();
        classIsOfEqualOnesTheLeast();
        searchedByAllDomainsAndTurns();
        searchedOverAllItsSamples();
        triedIsAGreatestSum();
        triedIsByTheBlocksClass();
        contrastOfTwoTheGreater();
        contrastIsBroughtTo7();
        contrastIs0IfQIs0();
        offsetOfTwoTheGreater();
        leastErrorOfEqualOnesTheFirst();
        splitAboveTheBoundAlone();
        splitAboveTheLeastAlone();
        blocksAreNumberedAsTheyCome();
        end();
    }

    /** "other numbers count as the nearest of these". */
    private static void sideOtherNumbersCountAsTheNearest() {
        int[] numbers = {Integer.MIN_VALUE, Integer.MIN_VALUE + 1, -32, -1, 0, 1, 2, 3, 4, 5, 8, 31, 32, 33, 64,
            Integer.MAX_VALUE - 1, Integer.MAX_VALUE};
        int[] sides = {4, 4, 4, 4, 4, 8, 16, 32, 32, 32, 32, 32, 32, 32, 32, 32, 32};
        for (int i = 0; i < numbers.length; i++) {
            FractalMaps m = new FractalMaps(numbers[i]);
            int last = sides[i] - 1;
            due("side for " + numbers[i], m.told(0), sides[i]);
            due("last sample for " + numbers[i], m.put(last, last, 1), 0);
            index("none behind it for " + numbers[i], () -> m.put(last + 1, last, 1));
            index("none below it for " + numbers[i], () -> m.put(last, last + 1, 1));
        }
    }

    /** "its samples are 0 .. 255, at first 0". */
    private static void samplesAreFrom0To255AtFirst0() {
        for (int number = 0; number < 4; number++) {
            int side = SIDES[number];
            for (int rows = 0; rows < side; rows += 8) {
                FractalMaps m = new FractalMaps(number);
                for (int i = 0; i < side * Math.min(8, side); i++) {
                    due("at first, in " + side, m.put(i % side, rows + i / side, 255), 0);
                }
                due("255 is a sample", m.put(side - 1, rows, 0), 255);
                due("0 is a sample", m.put(side - 1, rows, 1), 0);
                argument("-1 is none", () -> m.put(0, 0, -1));
                argument("256 is none", () -> m.put(0, 0, 256));
            }
        }
    }

    /** "All divisions are downward, if not told otherwise": s d / 8 below 0 in the search and in a round. */
    private static void divisionsAreDownward() {
        // The half is 5 16 / 16 0; as it is, s is -800 / 779; -5 / 8, -16 / 8, 0 make -1, -2, 0.
        FractalMaps m = blockAndThree(new int[] {0, 10, 0, 10}, 16, 16, 0);
        m.encode(2, 0);
        facts("downward in the search", m, 0, 0, 0, 2, 0, 0, -1, 6, 93);
        // One round makes 3, 5, 7, 14 even squares of 128 s / 8 + o; of them -3 d / 8 is -2, -2, -3, -6.
        FractalMaps r = new FractalMaps(0);
        feedBits(r, "001" + fit(0, 0, 0, -3, 51) + fit(0, 0, 0, 0, 5) + fit(0, 0, 0, 0, 7) + fit(0, 0, 0, 0, 14));
        due("read", r.read(), 4);
        due("one round", r.decode(1, 0), 125);
        due("one round", r.at(0, 0), 3);
        r.decode(2, 0);
        due("-9 / 8", r.at(0, 0), 49);
        due("-15 / 8", r.at(1, 0), 49);
        due("-21 / 8", r.at(0, 1), 48);
        due("-42 / 8", r.at(1, 1), 45);
    }

    /** "each (a + b + c + d + 2) / 4 of four". */
    private static void halfIsRoundedByTheTwo() {
        int[] halves = {0, 0, 1, 1, 1, 1, 2, 2, 2, 2, 3};
        for (int sum = 0; sum < halves.length; sum++) {
            for (int where = 0; where < 4; where++) {
                FractalMaps m = new FractalMaps(0);
                m.put(2 + where % 2, where / 2, sum);
                due("half of " + sum + " at " + where, m.domain(2, 0, 0, 1, 0), halves[sum]);
                due("of its own four alone", m.domain(2, 0, 0, 0, 0), 0);
            }
        }
        FractalMaps m = new FractalMaps(0);
        m.paint(255, 0, 0);
        due("half of four 255", m.domain(2, 0, 0, 1, 1), 255);
        m.put(3, 3, 254);
        due("half of 1019", m.domain(2, 0, 0, 1, 1), 255);
        m.put(3, 3, 253);
        due("half of 1018", m.domain(2, 0, 0, 1, 1), 255);
        m.put(3, 3, 252);
        due("half of 1017", m.domain(2, 0, 0, 1, 1), 254);
    }

    /** "its left and upper edge at multiples of n; they are numbered row by row". */
    private static void domainsLieAtMultiplesAndAreNumberedRowByRow() {
        for (int number = 0; number < 4; number++) {
            for (int size = 2; size <= SIDES[number] / 2; size *= 2) {
                for (int corner = 0; corner < 4; corner++) {
                    domainsByNumber(number, size, corner % 2 * (size - 1), corner / 2 * (size - 1));
                }
            }
        }
    }

    private static void domainsByNumber(int number, int size, int x, int y) {
        FractalMaps m = new FractalMaps(number);
        m.paint(0, 1, 7);
        int domain = 0;
        for (int top = 0; top + 2 * size <= SIDES[number]; top += size) {
            for (int left = 0; left + 2 * size <= SIDES[number]; left += size) {
                // of four samples: v, v + 1, v + 7, v + 8
                int v = left + 2 * x + 7 * (top + 2 * y);
                due("side " + SIDES[number] + " size " + size + " domain " + domain, m.domain(size, domain, 0, x, y), v + 4);
                domain++;
            }
        }
    }

    /** "as many as there are". */
    private static void domainsAreAsManyAsThereAre() {
        int[][] counts = {{1}, {9, 1}, {49, 9, 1}, {225, 49, 9, 1}};
        for (int number = 0; number < 4; number++) {
            FractalMaps m = new FractalMaps(number);
            for (int i = 0; i < counts[number].length; i++) {
                int size = 2 << i;
                int count = counts[number][i];
                due("the last domain of " + size, m.domain(size, count - 1, 0, 0, 0), 0);
                index("one more of " + size, () -> m.domain(size, count, 0, 0, 0));
                index("one below of " + size, () -> m.domain(size, -1, 0, 0, 0));
            }
        }
    }

    /** "by 0 as it is; by 1, 2, 3 that many quarter turns to the right .. by 4 to 7 mirrored first". */
    private static void turnedByEachTurn() {
        for (int size = 2; size <= 16; size *= 2) {
            int last = size - 1;
            int[][] places = {{0, 0}, {last, 0}, {0, last}, {last, last}, {1, 0}, {0, 1}, {last - 1, last}};
            FractalMaps m = new FractalMaps(3);
            m.paint(0, 1, 7);
            for (int[] place : places) {
                int x = place[0];
                int y = place[1];
                int[][] from = {{x, y}, {y, last - x}, {last - x, last - y}, {last - y, x},
                    {last - x, y}, {last - y, last - x}, {x, last - y}, {y, x}};
                for (int turn = 0; turn < 8; turn++) {
                    int v = 2 * from[turn][0] + 14 * from[turn][1] + 4;
                    due("size " + size + " turn " + turn + " at " + x + " " + y, m.domain(size, 0, turn, x, y), v);
                }
            }
        }
        FractalMaps corner = new FractalMaps(0);
        square(corner, 0, 0, 2, 200);
        due("the upper left corner is the upper right one by 1", corner.domain(2, 0, 1, 1, 0), 200);
        due("mirrored it is the upper right one", corner.domain(2, 0, 4, 1, 0), 200);
        due("mirrored first, turned then: the lower right one", corner.domain(2, 0, 5, 1, 1), 200);
    }

    /** "Its CLASS is the quarter with the greatest sum, of equal ones the least." */
    private static void classIsOfEqualOnesTheLeast() {
        for (int size = 2; size <= 16; size *= 2) {
            for (int greatest = 0; greatest < 16; greatest++) {
                FractalMaps m = new FractalMaps(3);
                for (int quarter = 0; quarter < 4; quarter++) {
                    int x = 5 + quarter % 2 * (size / 2);
                    int y = 3 + quarter / 2 * (size / 2);
                    m.put(x + size / 2 - 1, y + size / 2 - 1, (greatest >> quarter & 1) == 1 ? 9 : 8);
                }
                int least = greatest == 0 ? 0 : Integer.numberOfTrailingZeros(greatest);
                due("size " + size + " greatest ones " + greatest, m.kind(5, 3, size), least);
            }
        }
        FractalMaps m = new FractalMaps(0);
        m.put(0, 0, 10);
        square(m, 2, 2, 2, 3);
        due("by sums, not by one sample", m.kind(0, 0, 4), 3);
        m.put(1, 0, 2);
        due("12 and 12", m.kind(0, 0, 4), 0);
    }

    /** "all domains of its size, by numbers, each by turns 0 to 7": the last domain by each turn. */
    private static void searchedByAllDomainsAndTurns() {
        int[] lasts = {0, 8, 48, 224};
        int[] domainBits = {0, 4, 6, 8};
        int[][] turned = {{16, 32, 64, 128}, {64, 16, 128, 32}, {128, 64, 32, 16}, {32, 128, 16, 64},
            {32, 16, 128, 64}, {128, 32, 64, 16}, {64, 128, 16, 32}, {16, 64, 32, 128}};
        for (int number = 1; number < 4; number++) {
            int edge = SIDES[number] - 4;
            for (int turn = 0; turn < 8; turn++) {
                FractalMaps m = new FractalMaps(number);
                for (int i = 0; i < 4; i++) {
                    square(m, edge + i % 2 * 2, edge + i / 2 * 2, 2, 16 << i);
                    m.put(i % 2, i / 2, turned[turn][i] * 5 / 8 + 3);
                }
                m.encode(2, 0);
                facts("side " + SIDES[number], m, 0, 0, 0, 2, lasts[number], turn, 5, 3, 0);
                String bits = "001" + "1".repeat(number) + fit(domainBits[number], lasts[number], turn, 5, 3);
                for (int i = 0; i < bits.length() / 8; i++) {
                    due("its bits", m.byteAt(i), Integer.parseInt(bits.substring(8 * i, 8 * i + 8), 2));
                }
            }
        }
    }

    /** "over all n n samples": a block that is made from one domain by one turn, with others all round, finds it. */
    private static void searchedOverAllItsSamples() {
        int[][] kinds = {{1, 2, 9}, {2, 2, 49}, {2, 4, 9}, {3, 2, 225}, {3, 4, 49}, {3, 8, 9}};
        for (int[] kind : kinds) {
            int across = SIDES[kind[0]] / kind[1] - 1;
            // The first row and column of domains have samples of the block itself.
            int[] domains = {across + 1, 2 * across - 1, kind[2] / 2, kind[2] - across + 1, kind[2] - 1};
            for (int i = 0; i < domains.length; i++) {
                oneDomain(kind[0], kind[1], domains[i], (kind[1] + 3 * i) % 8, 7 - i % 2);
            }
        }
    }

    private static void oneDomain(int number, int size, int domain, int turn, int contrast) {
        FractalMaps m = new FractalMaps(number);
        noise(m);
        for (int i = 0; i < size * size; i++) {
            int d = m.domain(size, domain, turn, i % size, i / size);
            m.put(i % size, i / size, contrast * d / 8 + 11);
        }
        m.encode(size, 0);
        String name = "side " + SIDES[number] + " size " + size + " domain " + domain;
        facts(name, m, 0, 0, 0, size, domain, turn, contrast, 11, 0);
    }

    /** "has a greatest sum of theirs": each of the equal ones is. */
    private static void triedIsAGreatestSum() {
        for (int greatest = 1; greatest < 16; greatest++) {
            FractalMaps m = new FractalMaps(0);
            for (int quarter = 0; quarter < 4; quarter++) {
                square(m, quarter % 2 * 2, quarter / 2 * 2, 2, (greatest >> quarter & 1) == 1 ? 51 : 50);
            }
            m.encode(2, 0);
            // Each quarter comes to each place by two turns, for four blocks.
            due("greatest ones " + greatest, m.tried(), 8 * Integer.bitCount(greatest));
        }
    }

    /** "those in which the quarter of the block's class has a greatest sum". */
    private static void triedIsByTheBlocksClass() {
        // Which turn is the first that brings the quarter to the place of the class?
        int[][] first = {{0, 1, 3, 2}, {3, 0, 2, 1}, {1, 2, 0, 3}, {2, 3, 1, 0}};
        for (int quarter = 0; quarter < 4; quarter++) {
            for (int blocksClass = 0; blocksClass < 4; blocksClass++) {
                FractalMaps m = new FractalMaps(0);
                square(m, quarter % 2 * 2, quarter / 2 * 2, 2, 200);
                int k = 3 - quarter;
                // A sample of 1 changes nothing in the half, and every turn that is tried has the same error.
                m.put(k % 2 * 2 + blocksClass % 2, k / 2 * 2 + blocksClass / 2, 1);
                m.encode(2, 0);
                due("quarter " + quarter + " class " + blocksClass, m.block(k, 4), first[quarter][blocksClass]);
                due("quarter " + quarter + " class " + blocksClass, m.tried(), 8);
            }
        }
    }

    /** "CONTRAST s is 8 P / Q to the nearest, of two the greater". */
    private static void contrastOfTwoTheGreater() {
        // The half is 0 0 / 16 0: 8 P / Q is 384 / 768.
        contrast("1 / 2", new int[] {1, 0, 0, 0}, 0, 16, 0, 1, 1, 0, 1);
        // The half is 16 0 / 16 0: 8 P / Q is -4608 / 1024; 78 / 4 are left.
        contrast("-4 1 / 2", new int[] {20, 20, 2, 20}, 0, 16, 0, 0, -4, 20, 164);
        // The half is 1 0 / 48 0: 8 P / Q is 2288 / 6819; 2 / 4 are left.
        contrast("below 1 / 2", new int[] {2, 0, 0, 0}, 0, 48, 0, 1, 0, 1, 4);
        // The half is the same: 8 P / Q is 4576 / 6819; -2 / 4 are left.
        contrast("above 1 / 2", new int[] {4, 0, 0, 0}, 0, 48, 0, 1, 1, 0, 4);
    }

    private static void contrast(String name, int[] block, int right, int below, int last, int... fit) {
        FractalMaps m = blockAndThree(block, right, below, last);
        m.encode(2, 0);
        facts(name, m, 0, 0, 0, 2, 0, fit[0], fit[1], fit[2], fit[3]);
    }

    /** "brought to -7 .. 7". */
    private static void contrastIsBroughtTo7() {
        // The half is 1 0 / 0 0: 8 P / Q is 48 / 3; 7 / 8 is 0; 2 / 4 are left.
        contrast("16", new int[] {0, 0, 2, 0}, 0, 0, 0, 3, 7, 1, 4);
        // The half is 10 8 / 8 0: 8 P / Q is -1920 / 236; 20, 0, 0, 20 less -9, -7, -7, 0: 63 / 4 are left.
        contrast("-8 and a bit", new int[] {20, 0, 0, 20}, 8, 8, 0, 0, -7, 16, 347);
    }

    /** "s is 0, if Q is 0": an even domain. */
    private static void contrastIs0IfQIs0() {
        contrast("even and dark", new int[] {0, 0, 0, 1}, 0, 0, 0, 0, 0, 0, 1);
        contrast("even and bright", new int[] {255, 255, 255, 253}, 255, 255, 255, 0, 0, 255, 4);
        FractalMaps m = new FractalMaps(3);
        m.paint(255, 0, 0);
        m.encode(2, 0);
        facts("all of it even", m, 3, 16, 16, 16, 0, 0, 0, 255, 0);
    }

    /** "OFFSET o is .. divided by n n, to the nearest, of two the greater". */
    private static void offsetOfTwoTheGreater() {
        contrast("1 / 4", new int[] {0, 0, 1, 0}, 0, 0, 0, 0, 0, 0, 1);
        // The half is 1 1 / 0 0, by 2 like the block: 8 P / Q is 8, but 7 / 8 is 0.
        contrast("2 / 4", new int[] {0, 0, 1, 1}, 1, 0, 0, 2, 7, 1, 2);
        contrast("3 / 4", new int[] {0, 0, 3, 0}, 0, 0, 0, 3, 7, 1, 7);
        // The half is 0 0 / 16 0: 8 P / Q is 384 / 768; 1 less 2 are left.
        contrast("-1 / 4", new int[] {1, 0, 0, 0}, 0, 16, 0, 1, 1, 0, 1);
        // The half is 1 0 / 40 0: 8 P / Q is 2856 / 4723; 3 less 5 are left.
        contrast("-2 / 4", new int[] {0, 3, 0, 0}, 0, 40, 0, 2, 1, 0, 4);
        // The half is 1 0 / 64 0: 8 P / Q is 7640 / 12163; 5 less 8 are left.
        contrast("-3 / 4", new int[] {5, 0, 0, 0}, 0, 64, 0, 1, 1, -1, 7);
    }

    /** "The least error is taken, of equal ones the first." */
    private static void leastErrorOfEqualOnesTheFirst() {
        FractalMaps even = new FractalMaps(3);
        even.paint(100, 0, 0);
        even.encode(2, 0);
        facts("every one is equal", even, 0, 0, 0, 16, 0, 0, 0, 100, 0);
        // Domains 20 and 44 of 49 are alike, and nothing else is like the block, but by turn 7 as well as by 0.
        FractalMaps m = new FractalMaps(2);
        for (int i = 0; i < 2; i++) {
            int left = i == 0 ? 12 : 4;
            int top = i == 0 ? 4 : 12;
            square(m, left, top, 2, 128);
            square(m, left + 2, top, 2, 64);
            square(m, left, top + 2, 2, 64);
        }
        m.put(0, 0, 83);
        m.put(1, 0, 43);
        m.put(0, 1, 43);
        m.put(1, 1, 3);
        m.encode(2, 0);
        facts("the first domain by its first turn", m, 0, 0, 0, 2, 2 * 7 + 6, 0, 5, 3, 0);
    }

    /** "whose error is above the bound, is SPLIT". */
    private static void splitAboveTheBoundAlone() {
        FractalMaps m = new FractalMaps(1);
        m.put(0, 0, 255);
        m.put(3, 3, 201);
        m.encode(4, 0);
        int error = m.block(0, 7);
        due("there is an error", error > 0 ? 1 : 0, 1);
        due("at the bound", m.encode(2, error), 4);
        due("one above the bound", m.encode(2, error - 1), 7);
        due("one below the bound", m.encode(2, error + 1), 4);
        due("the greatest bound", m.encode(2, Integer.MAX_VALUE), 4);
        due("0 is not above 0", m.encode(2, 0), 7);
    }

    /** "one of a size above the least". */
    private static void splitAboveTheLeastAlone() {
        int[] most = {4, 16, 64, 256};
        for (int number = 0; number < 4; number++) {
            FractalMaps m = new FractalMaps(number);
            noise(m);
            int blocks = most[number];
            for (int least = 2; least <= SIDES[number] / 2; least *= 2) {
                due("least " + least + " in " + SIDES[number], m.encode(least, 0), blocks);
                due("their size", m.block(0, 2), least);
                due("their size", m.block(blocks - 1, 2), least);
                due("their last", m.block(blocks - 1, 0), SIDES[number] - least);
                blocks /= 4;
            }
        }
    }

    /** "its four quarters, in their order, are blocks instead, and so on. Blocks are numbered as they come." */
    private static void blocksAreNumberedAsTheyCome() {
        FractalMaps m = new FractalMaps(2);
        m.put(8, 8, 200);
        due("a spot", m.encode(2, 0), 10);
        int[][] squares = {{0, 0, 8}, {8, 0, 8}, {0, 8, 8}, {8, 8, 2}, {10, 8, 2}, {8, 10, 2}, {10, 10, 2},
            {12, 8, 4}, {8, 12, 4}, {12, 12, 4}};
        for (int k = 0; k < squares.length; k++) {
            for (int what = 0; what < 3; what++) {
                due("block " + k + " what " + what, m.block(k, what), squares[k][what]);
            }
        }
        FractalMaps all = new FractalMaps(3);
        noise(all);
        due("all of 2", all.encode(2, 0), 256);
        for (int k = 0; k < 256; k += 3) {
            int x = 0;
            int y = 0;
            for (int level = 0; level < 4; level++) {
                x += (k >> 2 * level & 1) * (2 << level);
                y += (k >> 2 * level + 1 & 1) * (2 << level);
            }
            due("x of " + k, all.block(k, 0), x);
            due("y of " + k, all.block(k, 1), y);
        }
    }
}
