/** One or more tests for each promise: ordinary inputs, the edges that the document names, wrong inputs. */
public final class PromisesTest extends Checks {
    public static void main(String[] args) {
        promise1ANewObject();
        promise2Put();
        promise3Paint();
        promise4Encode();
        promise4LeastErrorAndFirstOfEqualOnes();
        promise5Block();
        promise6ByteAt();
        promise6BitsOfSplitSquares();
        promise7Feed();
        promise8Pass();
        promise9Read();
        promise9Refusals();
        promise9RefusesAtOnce();
        promise10Decode();
        promise10DecodeReadBlocks();
        promise11At();
        promise12Missed();
        promise13Domain();
        promise13DomainNumbersAndRounding();
        promise13DomainWrongInputs();
        promise14Kind();
        promise15Tried();
        promise16Told();
        promise17Clear();
        end();
    }

    private static void promise1ANewObject() {
        int[] numbers = {Integer.MIN_VALUE, -1, 0, 1, 2, 3, 4, Integer.MAX_VALUE};
        int[] sides = {4, 4, 4, 8, 16, 32, 32, 32};
        for (int i = 0; i < numbers.length; i++) {
            FractalMaps m = new FractalMaps(numbers[i]);
            due("1: side for " + numbers[i], m.told(0), sides[i]);
            due("1: samples are 0 for " + numbers[i], m.paint(0, 0, 0), 0);
            due("1: no blocks", m.told(1), 0);
            due("1: nothing encoded", m.told(2), 0);
            due("1: nothing waits", m.told(3), 0);
            due("1: nothing decoded", m.told(4), 0);
        }
        due("1: NONE", FractalMaps.NONE, -1);
    }

    private static void promise2Put() {
        FractalMaps m = new FractalMaps(1);
        due("2: the one before", m.put(3, 5, 77), 0);
        due("2: the one before", m.put(3, 5, 255), 77);
        due("2: the one before", m.put(3, 5, 0), 255);
        due("2: x is not y", m.put(5, 3, 9), 0);
        due("2: last sample", m.put(7, 7, 12), 0);
        due("2: last sample", m.put(7, 7, 13), 12);
        index("2: x below", () -> m.put(-1, 0, 1));
        index("2: y below", () -> m.put(0, -1, 1));
        index("2: x above", () -> m.put(8, 0, 1));
        index("2: y above", () -> m.put(0, 8, 1));
        index("2: far", () -> m.put(Integer.MAX_VALUE, Integer.MIN_VALUE, 1));
        argument("2: v below", () -> m.put(7, 7, -1));
        argument("2: v above", () -> m.put(7, 7, 256));
        index("2: the first of two", () -> m.put(8, 7, 256));
        due("2: a call that throws changes nothing", m.put(7, 7, 13), 13);
    }

    private static void promise3Paint() {
        FractalMaps m = new FractalMaps(0);
        due("3: all are others", m.paint(10, 20, 30), 16);
        due("3: across and down", m.put(2, 1, 80), 80);
        due("3: across and down", m.put(1, 2, 90), 90);
        due("3: none is another", m.paint(10, 20, 30), 0);
        m.put(0, 0, 11);
        due("3: one is another", m.paint(10, 20, 30), 1);
        m.paint(250, 2, 0);
        due("3: up to 255", m.put(2, 0, 254), 254);
        due("3: brought to 255", m.put(3, 0, 255), 255);
        m.paint(5, 0, -3);
        due("3: down to 0", m.put(0, 1, 2), 2);
        due("3: brought to 0", m.put(0, 2, 0), 0);
        paintIsExact(m);
    }

    private static void paintIsExact(FractalMaps m) {
        m.clear();
        due("3: far above", m.paint(Integer.MAX_VALUE, Integer.MAX_VALUE, Integer.MAX_VALUE), 16);
        due("3: far above", m.put(3, 3, 255), 255);
        due("3: far below", m.paint(Integer.MIN_VALUE, Integer.MIN_VALUE, Integer.MIN_VALUE), 16);
        due("3: far below", m.put(3, 3, 0), 0);
        m.paint(Integer.MIN_VALUE, Integer.MAX_VALUE, 1);
        due("3: exact", m.put(1, 3, 2), 2);
        due("3: exact", m.put(2, 0, 255), 255);
        due("3: exact", m.put(0, 3, 0), 0);
    }

    private static void promise4Encode() {
        FractalMaps m = gradient4();
        due("4: four blocks", m.encode(2, 0), 4);
        for (int least : new int[] {Integer.MIN_VALUE, -2, 0, 1, 3, 4, 8, 16, 32, Integer.MAX_VALUE}) {
            argument("4: least " + least, () -> m.encode(least, 0));
        }
        argument("4: bound below 0", () -> m.encode(2, -1));
        argument("4: bound below 0", () -> m.encode(2, Integer.MIN_VALUE));
        due("4: a call that throws changes nothing", m.told(1), 4);
        due("4: a call that throws changes nothing", m.told(2), 9);
        due("4: the greatest bound", m.encode(2, Integer.MAX_VALUE), 4);
        FractalMaps big = new FractalMaps(3);
        due("4: 16 is half of 32", big.encode(16, 0), 4);
        due("4: even grey is not split", big.encode(2, 0), 4);
        argument("4: 32 is no size", () -> big.encode(32, 0));
        FractalMaps rough = rough8();
        due("4: no split at the least size", rough.encode(4, 0), 4);
        due("4: all split", rough.encode(2, 0), 16);
        bound(rough);
    }

    private static void bound(FractalMaps m) {
        m.encode(4, 0);
        int greatest = 0;
        int many = 0;
        for (int k = 0; k < 4; k++) {
            greatest = Math.max(greatest, m.block(k, 7));
        }
        for (int k = 0; k < 4; k++) {
            many += m.block(k, 7) == greatest ? 1 : 0;
        }
        due("4: an error at the bound is not split", m.encode(2, greatest), 4);
        due("4: an error above the bound is", m.encode(2, greatest - 1), 4 + 3 * many);
    }

    private static void promise4LeastErrorAndFirstOfEqualOnes() {
        FractalMaps even = new FractalMaps(2);
        even.paint(9, 0, 0);
        due("4: even grey", even.encode(4, 0), 4);
        even.encode(8, 0);
        facts("4: of equal ones the first", even, 3, 8, 8, 8, 0, 0, 0, 9, 0);
        FractalMaps m = new FractalMaps(0);
        square(m, 2, 2, 2, 16);
        m.put(0, 0, 1);
        m.encode(2, 0);
        // The half is 0 0 / 0 16. For 1 0 / 0 0 the turns 2 and 5 are tried, with 8 * 3 * 16 / (3 * 16 * 16), or 1 / 2.
        facts("4: of two contrasts the greater", m, 0, 0, 0, 2, 0, 2, 1, 0, 1);
        facts("4: even blocks", m, 3, 2, 2, 2, 0, 2, 0, 16, 0);
        due("4: tried", m.tried(), 8);
        m.put(0, 0, 2);
        m.put(1, 1, 2);
        m.encode(2, 0);
        // The half is 1 0 / 0 16. For 2 0 / 0 2, 8 P / Q is 8 * 68 / 739; less 2 0 / 0 0, 2 in all are left for 4 samples.
        facts("4: of two offsets the greater", m, 0, 0, 0, 2, 0, 2, 1, 1, 4);
    }

    private static void promise5Block() {
        FractalMaps m = gradient4();
        index("5: none before", () -> m.block(0, 0));
        index("5: none before, and no what", () -> m.block(0, 8));
        m.encode(2, 0);
        facts("5: block 0", m, 0, 0, 0, 2, 0, 0, 4, -7, 0);
        facts("5: block 1", m, 1, 2, 0, 2, 0, 0, 4, 33, 0);
        facts("5: block 2", m, 2, 0, 2, 2, 0, 0, 4, 53, 0);
        facts("5: block 3", m, 3, 2, 2, 2, 0, 0, 4, 93, 0);
        argument("5: what below", () -> m.block(0, -1));
        argument("5: what above", () -> m.block(0, 8));
        index("5: k below", () -> m.block(-1, 0));
        index("5: k above", () -> m.block(4, 0));
        index("5: the first of two", () -> m.block(4, 8));
        m.paint(0, 0, 0);
        facts("5: as it was encoded", m, 3, 2, 2, 2, 0, 0, 4, 93, 0);
        m.pass();
        m.read();
        facts("5: as it was read", m, 3, 2, 2, 2, 0, 0, 4, 93, -1);
        m.encode(2, 0);
        facts("5: as it was encoded last", m, 3, 2, 2, 2, 0, 0, 0, 0, 0);
        FractalMaps rough = rough8();
        rough.encode(2, 0);
        due("5: depth first, x", rough.block(5, 0), 6);
        due("5: depth first, y", rough.block(5, 1), 0);
        due("5: depth first, x", rough.block(10, 0), 0);
        due("5: depth first, y", rough.block(10, 1), 6);
    }

    private static void promise6ByteAt() {
        FractalMaps m = gradient4();
        index("6: none before", () -> m.byteAt(0));
        m.encode(2, 0);
        int[] bytes = {34, 207, 145, 105, 8, 180, 212, 90, 186};
        for (int i = 0; i < bytes.length; i++) {
            due("6: byte " + i, m.byteAt(i), bytes[i]);
        }
        index("6: below", () -> m.byteAt(-1));
        index("6: above", () -> m.byteAt(9));
        index("6: far", () -> m.byteAt(Integer.MAX_VALUE));
        feedBits(m, "001" + "000 0111 0000000000" + "000 0111 0000000000" + "000 0111 0000000000"
            + "000 0111 0000000000");
        m.read();
        due("6: reading leaves what was encoded", m.byteAt(0), 34);
        m.paint(0, 0, 0);
        m.encode(2, 0);
        bitsAre("6: even grey", m, "001" + "00001110100000000".repeat(4));
    }

    private static void promise6BitsOfSplitSquares() {
        FractalMaps m = rough8();
        m.encode(2, 0);
        StringBuilder bits = new StringBuilder("001");
        for (int k = 0; k < 16; k++) {
            if (k % 4 == 0) {
                bits.append('1');
            }
            bits.append(number(m.block(k, 3), 4)).append(number(m.block(k, 4), 3));
            bits.append(number(m.block(k, 5) + 7, 4)).append(number(m.block(k, 6) + 256, 10));
        }
        bitsAre("6: split", m, bits.toString());
        m.encode(2, Integer.MAX_VALUE);
        bits = new StringBuilder("001");
        for (int k = 0; k < 4; k++) {
            bits.append('0').append(number(m.block(k, 4), 3));
            bits.append(number(m.block(k, 5) + 7, 4)).append(number(m.block(k, 6) + 256, 10));
        }
        bitsAre("6: not split", m, bits.toString());
        int[][] most = {{0, 9}, {1, 43}, {2, 187}, {3, 811}};
        for (int[] one : most) {
            FractalMaps full = new FractalMaps(one[0]);
            noise(full);
            full.encode(2, 0);
            due("6: the most bytes", full.told(2), one[1]);
            int[] least = {0, 2, 4, 8, 16};
            due("6: the number of the least size", full.byteAt(0) >> 5, 1);
            full.encode(least[one[0] + 1], 0);
            due("6: the number of the least size", full.byteAt(0) >> 5, one[0] + 1);
        }
    }

    private static void promise7Feed() {
        FractalMaps m = gradient4();
        due("7: one", m.feed(0), 1);
        due("7: two", m.feed(255), 2);
        argument("7: below", () -> m.feed(-1));
        argument("7: above", () -> m.feed(256));
        due("7: a call that throws changes nothing", m.told(3), 2);
        m.encode(2, 0);
        for (int i = 0; i < 221; i++) {
            m.pass();
        }
        for (int n = 1992; n <= 2000; n++) {
            due("7: up to 2000", m.feed(7), n);
        }
        unsupported("7: there are 2000", () -> m.feed(7));
        argument("7: the first of two", () -> m.feed(256));
        due("7: still 2000", m.told(3), 2000);
        due("7: all of it is read, and goes", m.read(), -1);
        due("7: there is room again", m.feed(7), 1);
    }

    private static void promise8Pass() {
        FractalMaps m = new FractalMaps(1);
        due("8: nothing was encoded", m.pass(), 0);
        m.paint(200, -10, 5);
        m.encode(2, 100);
        m.feed(1);
        due("8: behind the others", m.pass(), 11);
        m.read();
        for (int i = 1; i <= 200; i++) {
            due("8: ten more", m.pass(), 10 * i);
        }
        unsupported("8: above 2000", () -> m.pass());
        due("8: a call that throws changes nothing", m.told(3), 2000);
        m.read();
        m.feed(33);
        for (int i = 1; i < 200; i++) {
            m.pass();
        }
        due("8: 1991", m.told(3), 1991);
        unsupported("8: one above 2000", () -> m.pass());
        due("8: nothing of it came", m.told(3), 1991);
    }

    private static void promise9Read() {
        FractalMaps m = rough8();
        m.encode(2, 0);
        int[] before = new int[16 * 8];
        for (int i = 0; i < before.length; i++) {
            before[i] = m.block(i / 8, i % 8);
        }
        m.encode(4, 0);
        due("9: nothing waits", m.read(), -4);
        m.encode(2, 0);
        m.pass();
        m.encode(4, 0);
        due("9: how many blocks", m.read(), 16);
        due("9: it goes", m.told(3), 0);
        for (int i = 0; i < before.length; i++) {
            due("9: fact " + i, m.block(i / 8, i % 8), i % 8 == 7 ? -1 : before[i]);
        }
        due("9: what was encoded stays", m.told(2), 9);
        FractalMaps small = new FractalMaps(0);
        feedBits(small, "001" + "101 0000 0000000000" + "111 1110 1111111111" + "000 0111 0100000000"
            + "010 1000 0100000001");
        due("9: read", small.read(), 4);
        facts("9: least", small, 0, 0, 0, 2, 0, 5, -7, -256, -1);
        facts("9: most", small, 1, 2, 0, 2, 0, 7, 7, 767, -1);
        facts("9: none", small, 2, 0, 2, 2, 0, 0, 0, 0, -1);
        facts("9: one", small, 3, 2, 2, 2, 0, 2, 1, 1, -1);
    }

    private static final String FLAT = "000 0111 0100000000";

    private static void promise9Refusals() {
        FractalMaps m = new FractalMaps(1);
        m.paint(200, -10, 5);
        m.encode(2, 100);
        String body = "0" + FLAT + "0" + FLAT + "0" + FLAT + "0" + FLAT;
        refused(m, "000" + body, 0);
        refused(m, "011" + body, 0);
        refused(m, "100" + body, 0);
        refused(m, "101" + body, 0);
        refused(m, "111" + body, 0);
        refused(m, "001" + "1 1001" + FLAT + body + body, 1);
        refused(m, "001" + "1 1111" + FLAT + body + body, 1);
        refused(m, "001" + "0 000 1111 0100000000" + body, 2);
        refused(m, "001" + "0" + FLAT, 3);
        refused(m, "001" + body.substring(0, body.length() - 9), 3);
        refused(m, "001" + body + "00000 00000000", 4);
        refused(m, "001" + body + "00000 00000001", 4);
        refused(m, "001" + body + "1", 4);
        refused(m, "001" + body + "00001", 4);
        String fits = "001" + "1" + ("1000" + FLAT).repeat(4) + body.substring(0, 3 * (1 + FLAT.length()));
        feedBits(m, fits);
        due("9: the last domain there is", m.read(), 7);
        feedBits(m, "001" + body);
        due("9: 0 bits fill", m.read(), 4);
        feedBits(m, "010" + (FLAT).repeat(4));
        due("9: no bit for the least size", m.read(), 4);
        bitsThatFill();
    }

    private static void bitsThatFill() {
        // 3 + 4 * 18 bits; a square of 8 that is split has 1 + 4 * 22 instead of 18: three of them end with a byte.
        for (int split = 0; split <= 4; split++) {
            StringBuilder bits = new StringBuilder("001");
            for (int k = 0; k < 4; k++) {
                bits.append(k < split ? "1" + ("0 0000" + FLAT).repeat(4) : "0" + FLAT);
            }
            String packed = bits.toString().replace(" ", "");
            int filling = (8 - packed.length() % 8) % 8;
            FractalMaps m = new FractalMaps(2);
            feedBits(m, packed);
            due("9: " + filling + " bits that fill", m.read(), 4 + 3 * split);
            feedBits(m, packed);
            m.feed(0);
            due("9: " + (filling + 8) + " bits left", m.read(), -5);
            if (filling > 0) {
                feedBits(m, packed + "0".repeat(filling - 1) + "1");
                due("9: a bit that is 1", m.read(), -5);
            }
        }
    }

    private static void promise9RefusesAtOnce() {
        FractalMaps m = new FractalMaps(1);
        refused(m, "000 00000", 0);
        refused(m, "001 1 1001", 1);
        refused(m, "001 1 1001 000 1111 0", 1);
        refused(m, "001 0 000 1", 3);
        refused(m, "001 0 000 1111 00000", 2);
        refused(m, "001 0 111 0111 00000", 3);
        refused(m, "001 1 0000 111 1111 0 00000000", 2);
        refused(m, "001 1 0000 000 1111 0 1001", 2);
    }

    private static void refused(FractalMaps m, String bits, int why) {
        int blocks = m.told(1);
        int first = blocks == 0 ? 0 : m.block(0, 6);
        int error = blocks == 0 ? 0 : m.block(0, 7);
        feedBits(m, bits);
        due("9: refused for " + why + ": " + bits, m.read(), -1 - why);
        due("9: the blocks stay", m.told(1), blocks);
        due("9: refused, it goes, too", m.told(3), 0);
        if (blocks > 0) {
            due("9: the blocks stay", m.block(0, 6), first);
            due("9: the blocks stay", m.block(0, 7), error);
        }
    }

    private static void promise10Decode() {
        FractalMaps m = gradient4();
        state("10: no blocks", () -> m.decode(1, 0));
        argument("10: the first of two", () -> m.decode(0, 0));
        argument("10: the first of two", () -> m.decode(1, 2));
        m.encode(2, 0);
        due("10: one round", m.decode(1, 0), 71);
        for (int rounds : new int[] {Integer.MIN_VALUE, -1, 0, 41, Integer.MAX_VALUE}) {
            argument("10: rounds " + rounds, () -> m.decode(rounds, 0));
        }
        for (int size : new int[] {Integer.MIN_VALUE, -1, 2, Integer.MAX_VALUE}) {
            argument("10: size " + size, () -> m.decode(1, size));
        }
        due("10: a call that throws changes nothing", m.at(2, 2), 157);
        due("10: anew from even grey", m.decode(1, 0), 71);
        due("10: forty rounds", m.decode(40, 1), 0);
        due("10: twice as great", m.told(4), 8);
        due("10: twice as great", m.at(7, 7), 174);
        due("10: twelve rounds", m.decode(12, 0), 0);
        due("10: upper left", m.at(0, 0), 11);
        due("10: lower right", m.at(3, 3), 161);
        m.clear();
        state("10: no blocks any more", () -> m.decode(1, 0));
    }

    private static void promise10DecodeReadBlocks() {
        FractalMaps m = new FractalMaps(0);
        feedBits(m, "001" + "000 0111 0000000000" + "000 0111 1111111111" + "000 0111 0110000001"
            + "000 0110 0110010001");
        m.read();
        due("10: greatest change", m.decode(1, 0), 128);
        due("10: brought to 0", m.at(1, 1), 0);
        due("10: brought to 255", m.at(2, 0), 255);
        due("10: 0 d + 129", m.at(0, 2), 129);
        due("10: -16 + 145", m.at(3, 3), 129);
        m.decode(2, 0);
        // of 0, 255, 129, 129 in the half: 145, 145 - 32 (downward), 145 - 17, 145 - 17
        due("10: 145 - 0", m.at(2, 2), 145);
        due("10: downward", m.at(3, 2), 113);
        due("10: downward", m.at(2, 3), 128);
        due("10: downward", m.at(3, 3), 128);
        due("10: in the last round", m.decode(2, 0), 16);
        turnedAndTwiceAsGreat();
    }

    private static void turnedAndTwiceAsGreat() {
        FractalMaps m = new FractalMaps(0);
        feedBits(m, "001" + "001 1110 0100000000" + "000 0111 0101000000" + "000 0111 0100010000"
            + "000 0111 0101100100");
        m.read();
        // Samples 112 (7 * 128 / 8), 64, 16, 100 in the squares after the first round.
        m.decode(1, 1);
        due("10: side", m.told(4), 8);
        due("10: 7 * 128 / 8", m.at(3, 3), 112);
        m.decode(2, 1);
        // the half of these, a turn to the right: 16 112 / 100 64, each in two by two, times 7 / 8
        due("10: upper left", m.at(0, 0), 14);
        due("10: upper left", m.at(1, 1), 14);
        due("10: upper right", m.at(2, 0), 98);
        due("10: upper right", m.at(3, 1), 98);
        due("10: lower left", m.at(0, 2), 87);
        due("10: lower right", m.at(3, 3), 56);
        due("10: the block to the right", m.at(4, 0), 64);
        due("10: the block below", m.at(0, 4), 16);
    }

    private static void promise11At() {
        FractalMaps m = gradient4();
        index("11: before the first one", () -> m.at(0, 0));
        m.encode(2, 0);
        index("11: encoded is not decoded", () -> m.at(0, 0));
        m.decode(1, 0);
        due("11: x", m.at(3, 1), 97);
        due("11: y", m.at(1, 3), 117);
        index("11: x below", () -> m.at(-1, 0));
        index("11: y below", () -> m.at(0, -1));
        index("11: x above", () -> m.at(4, 0));
        index("11: y above", () -> m.at(0, 4));
        m.decode(1, 1);
        due("11: 4, 0 is there at size 1", m.at(4, 0), m.at(7, 3));
        index("11: x above", () -> m.at(8, 0));
        index("11: y above", () -> m.at(0, 8));
        int before = m.at(0, 0);
        m.paint(255, 0, 0);
        m.encode(2, 0);
        due("11: what was decoded last stays", m.at(0, 0), before);
    }

    private static void promise12Missed() {
        FractalMaps m = gradient4();
        state("12: none", () -> m.missed());
        m.encode(2, 0);
        state("12: none", () -> m.missed());
        m.decode(1, 0);
        due("12: one round", m.missed(), 12944);
        m.decode(12, 0);
        due("12: twelve rounds", m.missed(), 16);
        m.put(0, 0, 21);
        due("12: the picture as it is now", m.missed(), 15 + 100);
        m.decode(12, 1);
        state("12: at size 1", () -> m.missed());
        m.decode(12, 0);
        due("12: again at size 0", m.missed(), 15 + 100);
        FractalMaps big = new FractalMaps(3);
        big.encode(16, 0);
        big.decode(1, 0);
        big.paint(255, 0, 0);
        due("12: the most", big.missed(), 1024L * 255 * 255);
        big.clear();
        state("12: none any more", () -> big.missed());
    }

    private static void promise13Domain() {
        FractalMaps m = new FractalMaps(0);
        square(m, 0, 0, 2, 10);
        square(m, 2, 0, 2, 20);
        square(m, 0, 2, 2, 30);
        square(m, 2, 2, 2, 40);
        int[][] turned = {{10, 20, 30, 40}, {30, 10, 40, 20}, {40, 30, 20, 10}, {20, 40, 10, 30},
            {20, 10, 40, 30}, {40, 20, 30, 10}, {30, 40, 10, 20}, {10, 30, 20, 40}};
        for (int turn = 0; turn < 8; turn++) {
            for (int i = 0; i < 4; i++) {
                due("13: turn " + turn + " sample " + i, m.domain(2, 0, turn, i % 2, i / 2), turned[turn][i]);
            }
        }
    }

    private static void promise13DomainNumbersAndRounding() {
        FractalMaps m = new FractalMaps(1);
        m.paint(0, 2, 20);
        // the half at u, v is the mean of 4 u + 40 v and what lies 2 and 20 beside it: 4 u + 40 v + 11
        for (int domain = 0; domain < 9; domain++) {
            int base = 11 + 4 * (domain % 3) + 40 * (domain / 3);
            due("13: domain " + domain, m.domain(2, domain, 0, 0, 0), base);
            due("13: domain " + domain, m.domain(2, domain, 0, 1, 0), base + 4);
            due("13: domain " + domain, m.domain(2, domain, 0, 0, 1), base + 40);
        }
        due("13: size 4", m.domain(4, 0, 0, 3, 1), 11 + 12 + 40);
        due("13: size 4, to the right", m.domain(4, 0, 1, 2, 0), 11 + 40);
        due("13: size 4, to the left", m.domain(4, 0, 3, 0, 2), 11 + 4);
        m.paint(0, 0, 0);
        int[] halves = {0, 1, 1, 1, 1};
        int[] sums = {1, 2, 3, 4, 5};
        for (int i = 0; i < sums.length; i++) {
            m.put(1, 1, sums[i]);
            due("13: to the nearest, " + sums[i] + " / 4", m.domain(2, 0, 0, 0, 0), halves[i]);
        }
        m.put(0, 0, 255);
        due("13: the picture as it is now", m.domain(2, 0, 0, 0, 0), 65);
        due("13: 16 in 32", new FractalMaps(3).domain(16, 0, 7, 15, 15), 0);
        due("13: the last of 225", new FractalMaps(3).domain(2, 224, 0, 1, 1), 0);
    }

    private static void promise13DomainWrongInputs() {
        FractalMaps m = new FractalMaps(1);
        for (int size : new int[] {Integer.MIN_VALUE, -2, 0, 1, 3, 8, 16, 32, Integer.MAX_VALUE}) {
            argument("13: size " + size, () -> m.domain(size, 0, 0, 0, 0));
        }
        argument("13: turn below", () -> m.domain(2, 0, -1, 0, 0));
        argument("13: turn above", () -> m.domain(2, 0, 8, 0, 0));
        index("13: domain below", () -> m.domain(2, -1, 0, 0, 0));
        index("13: domain above", () -> m.domain(2, 9, 0, 0, 0));
        index("13: domain above", () -> m.domain(4, 1, 0, 0, 0));
        index("13: x below", () -> m.domain(2, 8, 7, -1, 0));
        index("13: x above", () -> m.domain(2, 8, 7, 2, 0));
        index("13: y below", () -> m.domain(2, 8, 7, 0, -1));
        index("13: y above", () -> m.domain(4, 0, 7, 0, 4));
        argument("13: the first of two", () -> m.domain(2, 9, 8, 2, 2));
        argument("13: the first of two", () -> m.domain(5, -1, 0, 0, 0));
    }

    private static void promise14Kind() {
        FractalMaps m = new FractalMaps(2);
        due("14: of equal ones the least", m.kind(0, 0, 2), 0);
        due("14: of equal ones the least", m.kind(0, 0, 16), 0);
        m.put(15, 15, 3);
        due("14: lower right", m.kind(0, 0, 16), 3);
        due("14: lower right", m.kind(14, 14, 2), 3);
        m.put(0, 15, 3);
        due("14: of equal ones the least", m.kind(0, 0, 16), 2);
        m.put(9, 1, 3);
        due("14: upper right", m.kind(0, 0, 16), 1);
        due("14: at any place", m.kind(7, 0, 4), 1);
        due("14: at any place", m.kind(8, 1, 2), 1);
        due("14: at any place", m.kind(8, 0, 2), 3);
        due("14: at any place", m.kind(9, 0, 2), 2);
        m.put(8, 2, 4);
        due("14: by sums", m.kind(8, 1, 2), 2);
        for (int size : new int[] {Integer.MIN_VALUE, 0, 1, 3, 32, Integer.MAX_VALUE}) {
            argument("14: size " + size, () -> m.kind(0, 0, size));
        }
        index("14: x below", () -> m.kind(-1, 0, 2));
        index("14: y below", () -> m.kind(0, -1, 2));
        index("14: x above", () -> m.kind(15, 0, 2));
        index("14: y above", () -> m.kind(0, 15, 2));
        index("14: far", () -> m.kind(Integer.MAX_VALUE, Integer.MAX_VALUE, 16));
        argument("14: the first of two", () -> m.kind(-1, 0, 5));
        FractalMaps small = new FractalMaps(0);
        index("14: 16 is a size, but not in 4", () -> small.kind(0, 0, 16));
        due("14: all of it", small.kind(0, 0, 4), 0);
    }

    private static void promise15Tried() {
        FractalMaps m = gradient4();
        due("15: 0 before", m.tried(), 0);
        m.encode(2, 0);
        due("15: two turns of one domain for four blocks", m.tried(), 8);
        argument("15: wrong", () -> m.encode(3, 0));
        m.pass();
        m.read();
        m.decode(1, 0);
        m.paint(7, 0, 0);
        due("15: at the latest encode()", m.tried(), 8);
        m.encode(2, 0);
        due("15: all turns of even grey", m.tried(), 32);
        m.paint(10, 0, 30);
        m.encode(2, 0);
        due("15: a greatest sum of two", m.tried(), 16);
        FractalMaps rough = rough8();
        rough.encode(4, 0);
        int above = rough.tried();
        due("15: at least two turns of one domain each", above >= 8 ? 1 : 0, 1);
        rough.encode(2, 0);
        int all = rough.tried();
        due("15: with blocks that were split, too", all >= above + 16 * 9 * 2 ? 1 : 0, 1);
        FractalMaps slope = new FractalMaps(1);
        slope.paint(0, 3, 16);
        slope.put(7, 7, 255);
        slope.put(0, 0, 40);
        slope.put(7, 0, 70);
        slope.put(0, 7, 20);
        due("15: blocks", slope.encode(2, 0), 16);
        // four blocks of size 4 with one domain, sixteen of size 2 with nine
        due("15: two turns each", slope.tried(), 4 * 2 + 16 * 9 * 2);
    }

    private static void promise16Told() {
        FractalMaps m = gradient4();
        due("16: side", m.told(0), 4);
        m.encode(2, 0);
        m.feed(1);
        m.pass();
        m.decode(1, 1);
        due("16: side", m.told(0), 4);
        due("16: blocks", m.told(1), 4);
        due("16: bytes", m.told(2), 9);
        due("16: to be read", m.told(3), 10);
        due("16: decoded", m.told(4), 8);
        m.decode(1, 0);
        due("16: decoded", m.told(4), 4);
        for (int what : new int[] {Integer.MIN_VALUE, -1, 5, Integer.MAX_VALUE}) {
            due("16: what " + what, m.told(what), -1);
        }
    }

    private static void promise17Clear() {
        FractalMaps m = rough8();
        m.encode(2, 0);
        m.decode(3, 0);
        m.pass();
        m.clear();
        due("17: the side stays", m.told(0), 8);
        for (int what = 1; what <= 4; what++) {
            due("17: told " + what, m.told(what), 0);
        }
        due("17: tried", m.tried(), 0);
        due("17: samples", m.paint(0, 0, 0), 0);
        index("17: no block", () -> m.block(0, 0));
        index("17: no byte", () -> m.byteAt(0));
        index("17: nothing decoded", () -> m.at(0, 0));
        state("17: no blocks", () -> m.decode(1, 0));
        state("17: nothing decoded", () -> m.missed());
        due("17: nothing waits", m.read(), -4);
        due("17: nothing to pass", m.pass(), 0);
        m.paint(200, -10, 5);
        due("17: goes on", m.encode(2, 100), 4);
        int[] bytes = {33, 107, 40, 90, 122, 22, 188, 133, 170, 32};
        for (int i = 0; i < bytes.length; i++) {
            due("17: byte " + i + " as from a new object", m.byteAt(i), bytes[i]);
        }
    }
}
