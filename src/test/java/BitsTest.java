/** The sentences of 'BITS' and 'READING' that name a boundary case, each with a test of its own. */
public final class BitsTest extends Checks {
    private static final int[] SIDES = {4, 8, 16, 32};
    /** By the side's number, for the sizes 2, 4, 8, 16. */
    private static final int[][] DOMAINS = {{1}, {9, 1}, {49, 9, 1}, {225, 49, 9, 1}};
    private static final int[][] DOMAIN_BITS = {{0}, {4, 0}, {6, 4, 0}, {8, 6, 4, 0}};
    private static final String FLAT = fit(0, 0, 0, 0, 0);

    public static void main(String[] args) {
        theLeastSizesNumber();
        oneIfItIsSplitElse0NoneForTheLeastSize();
        theDomainInAsFewAsDo();
        contrastAnd7OffsetAnd256();
        theLastByteIsFilledWith0();
        bytesAreFrom0To255();
        refused0ALeastSizeThatIsNone();
        refused0AboveHalfTheSide();
        refused1ADomainThatThereIsNot();
        refused2AContrastAbove7();
        refused3ABitThatLacks();
        refused4BitsThatAreLeft();
        refusedAtOnce();
        whatWasEncodedIsReadAlike();
        end();
    }

    /** "the least size's number (1 to 4 for 2, 4, 8, 16) in 3". */
    private static void theLeastSizesNumber() {
        for (int number = 0; number < 4; number++) {
            FractalMaps m = new FractalMaps(number);
            for (int i = 1; i <= number + 1; i++) {
                due("blocks", m.encode(1 << i, 0), 4);
                due("side " + SIDES[number] + " least " + (1 << i), m.byteAt(0) >> 5, i);
            }
        }
    }

    /** "1 if it is split, else 0, in 1 (none for the least size)". */
    private static void oneIfItIsSplitElse0NoneForTheLeastSize() {
        FractalMaps even = new FractalMaps(2);
        even.encode(8, 0);
        bitsAre("8 is the least", even, "011" + FLAT.repeat(4));
        even.encode(4, 0);
        bitsAre("8 is above the least", even, "010" + ("0" + FLAT).repeat(4));
        FractalMaps m = new FractalMaps(2);
        m.put(8, 8, 200);
        due("a spot", m.encode(2, 0), 10);
        StringBuilder bits = new StringBuilder("001");
        int[] widths = {0, 0, 0, 6, 6, 6, 6, 4, 4, 4};
        String[] before = {"0", "0", "0", "11", "", "", "", "0", "0", "0"};
        for (int k = 0; k < 10; k++) {
            bits.append(before[k]).append(fitOf(m, k, widths[k]));
        }
        bitsAre("a spot", m, bits.toString());
    }

    private static String fitOf(FractalMaps m, int k, int domainBits) {
        return fit(domainBits, m.block(k, 3), m.block(k, 4), m.block(k, 5), m.block(k, 6));
    }

    /** "the domain, in as few as do for all of its size": none, if there is only one. */
    private static void theDomainInAsFewAsDo() {
        for (int number = 0; number < 4; number++) {
            FractalMaps m = new FractalMaps(number);
            noise(m);
            for (int i = 0; i <= number; i++) {
                int least = 2 << i;
                int blocks = m.encode(least, 0);
                int splits = (blocks - 4) / 3;
                int bits = 3 + splits + blocks * (DOMAIN_BITS[number][i] + 17);
                due("side " + SIDES[number] + " least " + least, m.told(2), (bits + 7) / 8);
            }
        }
        FractalMaps m = rough8();
        m.encode(2, 0);
        StringBuilder bits = new StringBuilder("001");
        for (int k = 0; k < 16; k++) {
            bits.append(k % 4 == 0 ? "1" : "").append(fitOf(m, k, 4));
        }
        bitsAre("4 bits for 9", m, bits.toString());
    }

    /** "contrast and 7 in 4, offset and 256 in 10": the least and the greatest of each. */
    private static void contrastAnd7OffsetAnd256() {
        int[][] fits = {{-7, -256}, {-7, 767}, {7, -256}, {7, 767}, {-1, -1}, {0, 0}, {1, 1}, {6, 255}, {-6, 256}};
        for (int[] one : fits) {
            FractalMaps m = new FractalMaps(0);
            feedBits(m, "001" + fit(0, 0, 7, one[0], one[1]).repeat(4));
            due("read", m.read(), 4);
            facts("contrast " + one[0] + " offset " + one[1], m, 3, 2, 2, 2, 0, 7, one[0], one[1], -1);
        }
        FractalMaps steep = new FractalMaps(0);
        // The upper left block is like nothing but by a contrast of 7, or of -7; the others are even.
        steep.put(0, 0, 2);
        steep.encode(2, 0);
        bitsAre("7", steep, "001" + fit(0, 0, 0, 7, 1) + fit(0, 0, 0, 0, 0).repeat(3));
        FractalMaps fallen = blockAndThree(new int[] {20, 0, 0, 20}, 8, 8, 0);
        fallen.encode(2, 0);
        bitsAre("-7", fallen, "001" + fit(0, 0, 0, -7, 16) + fit(0, 0, 0, 0, 8).repeat(2) + fit(0, 0, 0, 0, 0));
    }

    /** "The last byte is filled with 0": not with what an earlier, longer encoding left; and not, if it is full. */
    private static void theLastByteIsFilledWith0() {
        FractalMaps m = rough8();
        for (int least = 2; least <= 4; least *= 2) {
            m.encode(2, 0);
            due("the bits of 343 that fill", m.byteAt(42) & 1, 0);
            m.encode(least, Integer.MAX_VALUE);
            int filling = least == 2 ? 5 : 1;
            due("the bits that fill", m.byteAt(m.told(2) - 1) & (1 << filling) - 1, 0);
        }
        FractalMaps full = new FractalMaps(2);
        square(full, 0, 0, 4, 100);
        square(full, 12, 0, 4, 50);
        square(full, 4, 12, 4, 200);
        due("three are split", full.encode(2, 0), 13);
        due("3 + 3 * (1 + 4 * 22) + 18 bits", full.told(2), 36);
        full.pass();
        due("nothing is left", full.read(), 13);
    }

    /** A byte is 0 .. 255, not below 0. */
    private static void bytesAreFrom0To255() {
        FractalMaps m = new FractalMaps(0);
        m.paint(255, 0, 0);
        m.encode(2, 0);
        bitsAre("offset 255", m, "001" + fit(0, 0, 0, 0, 255).repeat(4));
        due("above 127", m.byteAt(2) > 127 || m.byteAt(1) > 127 ? 1 : 0, 1);
    }

    /** "0 a least size that is none". */
    private static void refused0ALeastSizeThatIsNone() {
        for (int number = 0; number < 4; number++) {
            for (int told : new int[] {0, 5, 6, 7}) {
                refused("number " + told, number, number(told, 3) + FLAT.repeat(4), 0);
            }
        }
    }

    /** "0 .. or above half the side". */
    private static void refused0AboveHalfTheSide() {
        for (int number = 0; number < 4; number++) {
            for (int told = 1; told <= 4; told++) {
                boolean above = told > number + 1;
                boolean half = told == number + 1;
                String bits = number(told, 3) + (half || above ? FLAT : "0" + FLAT).repeat(4);
                if (above) {
                    refused("number " + told, number, bits, 0);
                } else {
                    FractalMaps m = new FractalMaps(number);
                    feedBits(m, bits);
                    due("side " + SIDES[number] + " number " + told, m.read(), 4);
                }
            }
        }
    }

    /** "1 a domain that there is not". */
    private static void refused1ADomainThatThereIsNot() {
        for (int number = 1; number < 4; number++) {
            for (int i = 0; i < number; i++) {
                int count = DOMAINS[number][i];
                int width = DOMAIN_BITS[number][i];
                readDomain(number, i, count - 1, count - 1);
                readDomain(number, i, 0, 0);
                refused("domain " + count, number, withDomain(number, i, count), 1);
                refused("the greatest number", number, withDomain(number, i, (1 << width) - 1), 1);
            }
        }
    }

    private static void readDomain(int number, int i, int domain, int due) {
        FractalMaps m = new FractalMaps(number);
        feedBits(m, withDomain(number, i, domain));
        due("side " + SIDES[number] + " domain " + domain, m.read(), 4 + 3 * (number - i));
        due("its size", m.block(3, 2), 2 << i);
        due("the domain", m.block(3, 3), due);
    }

    /** The least size's square, the fourth of the first that are split, has the domain; all others the first one. */
    private static String withDomain(int number, int i, int domain) {
        StringBuilder bits = new StringBuilder(number(i + 1, 3));
        int splits = number - i;
        bits.append("1".repeat(splits));
        bits.append(fit(DOMAIN_BITS[number][i], 0, 0, 0, 0).repeat(3));
        bits.append(fit(DOMAIN_BITS[number][i], domain, 0, 0, 0));
        for (int size = i + 1; size <= number; size++) {
            bits.append(("0" + fit(DOMAIN_BITS[number][size], 0, 0, 0, 0)).repeat(3));
        }
        return bits.toString();
    }

    /** "2 a contrast above 7". */
    private static void refused2AContrastAbove7() {
        for (int k = 0; k < 4; k++) {
            for (int contrast = -7; contrast <= 8; contrast++) {
                String bits = "001" + FLAT.repeat(k) + fit(0, 0, 0, contrast, 0) + FLAT.repeat(3 - k);
                if (contrast > 7) {
                    refused("block " + k + " contrast " + contrast, 0, bits, 2);
                } else {
                    FractalMaps m = new FractalMaps(0);
                    feedBits(m, bits);
                    due("contrast " + contrast, m.read(), 4);
                    due("contrast " + contrast, m.block(k, 5), contrast);
                }
            }
        }
    }

    /** "3 a bit that lacks": with each number of bytes that is too small. */
    private static void refused3ABitThatLacks() {
        refused("nothing is to be read", 0, "", 3);
        for (int number = 0; number < 4; number++) {
            for (int i = 0; i <= number; i++) {
                String bits = withDomain(number, i, 0);
                int bytes = (bits.length() + 7) / 8;
                for (int have = 0; have < bytes; have++) {
                    refused(have + " of " + bytes + " bytes", number, bits.substring(0, 8 * have), 3);
                }
                FractalMaps m = new FractalMaps(number);
                feedBits(m, bits);
                due("all " + bytes + " bytes", m.read(), 4 + 3 * (number - i));
            }
        }
        bitsBeforeTheOneThatLacks();
        oneBitLacks();
    }

    /** What is there of the number that ends too early is all 1: it is not taken for another number. */
    private static void bitsBeforeTheOneThatLacks() {
        for (int number = 0; number < 4; number++) {
            int[] fields = {DOMAIN_BITS[number][0], 3, 4, 10};
            String whole = number(1, 3) + "1".repeat(number);
            for (int k = 0; k < 4; k++) {
                for (int width : fields) {
                    int have = (8 - whole.length() % 8) % 8;
                    if (have < width) {
                        refused(have + " of " + width + " bits", number, whole + "1".repeat(have), 3);
                    }
                    whole += width == 4 ? "0111" : "0".repeat(width);
                }
            }
        }
    }

    private static void oneBitLacks() {
        String split = "1" + fit(4, 0, 0, 0, 0).repeat(4);
        String first = "001" + split;
        due("11 bytes", first.length(), 88);
        refused("the bit that tells of a split", 1, first, 3);
        String two = "001" + split.repeat(2) + ("0" + FLAT).repeat(2);
        due("26 bytes and a bit", two.length(), 209);
        refused("the last bit alone", 1, two.substring(0, 208), 3);
        FractalMaps m = new FractalMaps(1);
        feedBits(m, two);
        due("with it", m.read(), 10);
    }

    /** "4, behind all, bits that are left: eight, or more, or one that is 1." */
    private static void refused4BitsThatAreLeft() {
        for (int split = 0; split <= 4; split++) {
            StringBuilder packed = new StringBuilder("001");
            for (int k = 0; k < 4; k++) {
                packed.append(k < split ? "1" + ("0" + fit(4, 0, 0, 0, 0)).repeat(4) : "0" + FLAT);
            }
            String bits = packed.toString();
            int filling = (8 - bits.length() % 8) % 8;
            FractalMaps m = new FractalMaps(2);
            feedBits(m, bits);
            due(filling + " bits that are 0", m.read(), 4 + 3 * split);
            for (int place = 0; place < filling; place++) {
                refused("bit " + place + " of " + filling + " is 1", 2, bits + "0".repeat(place) + "1", 4);
            }
            refused("a byte more", 2, bits + "0".repeat(filling + 8), 4);
            refused("a byte more, that is not 0", 2, bits + "0".repeat(filling) + "00000001", 4);
            refused("many bytes more", 2, bits + "0".repeat(filling + 80), 4);
        }
        FractalMaps twice = gradient4();
        twice.encode(2, 0);
        twice.pass();
        twice.pass();
        due("what was encoded, twice", twice.read(), -5);
    }

    /** "READING refuses, at once": the first in the bits' order, though others are behind it. */
    private static void refusedAtOnce() {
        refused("0 before 3", 1, "000 00000", 0);
        refused("0 before 1, 2 and 4", 1, "111 1 1111 000 1111 0000000000" + "1".repeat(400), 0);
        refused("1 before 2", 1, "001 1 1001 000 1111 0000000000" + FLAT.repeat(40), 1);
        refused("1 before 3", 1, "001 1 1001", 1);
        refused("2 before 1", 1, "001 1" + fit(4, 0, 0, 8, 0) + fit(4, 9, 0, 0, 0) + FLAT.repeat(40), 2);
        refused("2 before 3", 1, "001 0 000 1111 00000", 2);
        refused("3 before 4", 1, "001 0" + FLAT + "0" + FLAT + "0" + FLAT + "0 000 0111", 3);
        refused("2 before 4", 0, "001" + FLAT.repeat(3) + fit(0, 0, 0, 8, 0) + "1" + "1".repeat(80), 2);
        refused("1 in the last block", 1, "001" + ("0" + FLAT).repeat(3) + "1" + fit(4, 0, 0, 0, 0).repeat(3)
            + fit(4, 9, 0, 0, 0), 1);
    }

    private static void refused(String name, int number, String bits, int why) {
        FractalMaps m = new FractalMaps(number);
        m.paint(7, 0, 0);
        m.encode(2, 0);
        String at = "side " + SIDES[number] + ", " + name;
        feedBits(m, bits);
        due(at, m.read(), -1 - why);
        due(at + ": it goes", m.told(3), 0);
        due(at + ": the blocks stay", m.told(1), 4);
        facts(at + ": the blocks stay", m, 1, SIDES[number] / 2, 0, SIDES[number] / 2, 0, 0, 0, 7, 0);
    }

    private static void whatWasEncodedIsReadAlike() {
        for (int number = 0; number < 4; number++) {
            for (int least = 2; least <= SIDES[number] / 2; least *= 2) {
                FractalMaps m = new FractalMaps(number);
                noise(m);
                int blocks = m.encode(least, 1000);
                int[] before = new int[8];
                for (int what = 0; what < 7; what++) {
                    before[what] = m.block(blocks - 1, what);
                }
                before[7] = -1;
                int bytes = m.told(2);
                due("bytes", m.pass(), bytes);
                due("blocks", m.read(), blocks);
                facts("the last block", m, blocks - 1, before);
            }
        }
    }
}
