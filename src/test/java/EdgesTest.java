/** The sentences of the promises that name a boundary case, each with a test of its own. */
public final class EdgesTest extends Checks {
    private static final int[] SIDES = {4, 8, 16, 32};
    private static final int MOST = Integer.MAX_VALUE;
    private static final int LEAST = Integer.MIN_VALUE;

    public static void main(String[] args) {
        anObjectIsUsedFor512Calls();
        promise2PutTheOneBefore();
        promise3PaintIsBroughtTo0And255();
        promise3PaintIsReckonedExactly();
        promise3PaintHowManyAreOtherOnes();
        promise4EncodeTheLeastSize();
        promise4EncodeTheBound();
        promise4EncodeAgain();
        promise5BlockAsItWasEncodedOrReadLast();
        promise6ByteAtOfWhatWasEncodedLast();
        promise7FeedUpTo2000();
        promise8PassUpTo2000();
        promise8PassNothing();
        promise9ReadAndItGoes();
        promise9ReadTheMostBlocks();
        promise10DecodeOneTo40Rounds();
        promise10DecodeIs128AtFirst();
        promise10DecodeIsBroughtTo0And255();
        promise10DecodeAsItWasBeforeTheRound();
        promise10DecodeTheGreatestChange();
        promise10DecodeTwiceAsGreat();
        promise11AtTheEdges();
        promise12MissedOfWhatDiffers();
        promise13DomainAsItIsNow();
        promise14KindAllInThePicture();
        promise15TriedInAll();
        promise16ToldOfEach();
        promise17ClearIsLikeNew();
        end();
    }

    /** "An object is used for at most 512 calls": the 512th is still answered. */
    private static void anObjectIsUsedFor512Calls() {
        FractalMaps m = new FractalMaps(0);
        for (int i = 1; i < 512; i++) {
            due("fed", m.feed(0), i);
        }
        due("call 512", m.feed(0), 512);
    }

    /** Promise 2: "A sample: the one before." */
    private static void promise2PutTheOneBefore() {
        for (int number = 0; number < 4; number++) {
            FractalMaps m = new FractalMaps(number);
            int last = SIDES[number] - 1;
            for (int corner = 0; corner < 4; corner++) {
                int x = corner % 2 * last;
                int y = corner / 2 * last;
                due("corner " + corner, m.put(x, y, 255 - corner), 0);
                due("corner " + corner, m.put(x, y, 0), 255 - corner);
                due("corner " + corner, m.put(x, y, 7), 0);
            }
            due("its neighbour is another one", m.put(1, 0, 1), 0);
            due("its neighbour is another one", m.put(0, 1, 1), 0);
            index("x = side", () -> m.put(last + 1, 0, 0));
            index("y = side", () -> m.put(0, last + 1, 0));
            index("x = -1", () -> m.put(-1, last, 0));
            index("y = -1", () -> m.put(last, -1, 0));
        }
    }

    /** Promise 3: "brought to 0 .. 255". */
    private static void promise3PaintIsBroughtTo0And255() {
        int[][] wanted = {{0, 0}, {-1, 0}, {1, 1}, {254, 254}, {255, 255}, {256, 255}, {LEAST, 0}, {MOST, 255}};
        for (int[] one : wanted) {
            FractalMaps m = new FractalMaps(0);
            m.paint(one[0], 0, 0);
            due("paint " + one[0], m.put(0, 0, 9), one[1]);
            due("paint " + one[0], m.put(3, 3, 9), one[1]);
        }
        FractalMaps m = new FractalMaps(0);
        m.paint(250, 3, -126);
        int[] due = {250, 253, 255, 255, 124, 127, 130, 133, 0, 1, 4, 7, 0, 0, 0, 0};
        for (int i = 0; i < 16; i++) {
            due("sample " + i, m.put(i % 4, i / 4, 0), due[i]);
        }
    }

    /** Promise 3: "(reckoned exactly)": beyond what an int holds. */
    private static void promise3PaintIsReckonedExactly() {
        painted("v and across", 0, MOST, 1, 0, 1, 0, 255);
        painted("v and across", 0, LEAST, -1, 0, 1, 0, 0);
        painted("v and down", 0, MOST, 0, 1, 0, 1, 255);
        painted("v and down", 0, LEAST, 0, -1, 0, 1, 0);
        painted("across by 2", 0, 5, 1 << 30, 0, 2, 0, 255);
        painted("across by 4", 1, 5, 1 << 30, 0, 4, 0, 255);
        painted("across by 2", 0, 5, LEAST, 0, 2, 0, 0);
        painted("down by 4", 1, 5, 0, 1 << 30, 0, 4, 255);
        painted("down by 2", 0, 5, 0, LEAST, 0, 2, 0);
        painted("down by 31", 3, 0, 0, MOST, 0, 31, 255);
        painted("across and down", 0, 0, MOST, MOST, 2, 2, 255);
        painted("across and down", 0, 0, LEAST, LEAST, 1, 1, 0);
        painted("all three", 3, LEAST, LEAST, LEAST, 31, 31, 0);
        painted("all three", 3, MOST, MOST, MOST, 31, 31, 255);
        painted("they make it up", 3, 5, MOST, -MOST, 31, 31, 5);
        painted("they make it up", 3, 5, MOST, -MOST, 31, 30, 255);
        painted("they make it up", 3, 5, MOST, -MOST, 30, 31, 0);
        painted("they make it up", 0, LEAST, MOST, 1, 1, 3, 2);
        painted("they make it up", 0, MOST, 1, LEAST, 3, 1, 2);
    }

    private static void painted(String name, int number, int v, int across, int down, int x, int y, int due) {
        FractalMaps m = new FractalMaps(number);
        m.paint(v, across, down);
        due(name + ": " + v + " " + across + " " + down + " at " + x + " " + y, m.put(x, y, 0), due);
    }

    /** Promise 3: "how many are other ones". */
    private static void promise3PaintHowManyAreOtherOnes() {
        for (int number = 0; number < 4; number++) {
            FractalMaps m = new FractalMaps(number);
            int all = SIDES[number] * SIDES[number];
            due("none", m.paint(0, 0, 0), 0);
            due("none: brought to 0", m.paint(-9, -1, -1), 0);
            due("all", m.paint(9, 0, 0), all);
            due("all but the first row", m.paint(9, 0, 1), all - SIDES[number]);
            due("all but the first row", m.paint(9, 0, 0), all - SIDES[number]);
            due("all but the first of each row", m.paint(9, -1, 0), all - SIDES[number]);
            m.paint(255, 0, 0);
            due("none: brought to 255", m.paint(256, 1, 1), 0);
            m.put(0, 0, 254);
            due("one", m.paint(255, 0, 0), 1);
        }
    }

    /** Promise 4: "the least size is not 2, 4, 8 or 16, or above half the side". */
    private static void promise4EncodeTheLeastSize() {
        for (int number = 0; number < 4; number++) {
            FractalMaps m = new FractalMaps(number);
            for (int least = -3; least <= 65; least++) {
                int size = least;
                boolean is = size == 2 || size == 4 || size == 8 || size == 16;
                if (is && 2 * size <= SIDES[number]) {
                    due("least " + size, m.encode(size, 0), 4);
                } else {
                    argument("side " + SIDES[number] + " least " + size, () -> m.encode(size, 0));
                }
            }
            for (int least : new int[] {LEAST, LEAST + 2, -16, -2, 128, 256, 1 << 16, 1 << 30, MOST}) {
                argument("least " + least, () -> m.encode(least, 0));
            }
        }
    }

    /** Promise 4: "or the bound is below 0". */
    private static void promise4EncodeTheBound() {
        FractalMaps m = gradient4();
        argument("-1", () -> m.encode(2, -1));
        argument("far below", () -> m.encode(2, LEAST));
        due("0", m.encode(2, 0), 4);
        due("far above", m.encode(2, MOST), 4);
    }

    /** What an earlier encoding left is not there any more. */
    private static void promise4EncodeAgain() {
        FractalMaps m = rough8();
        due("16 blocks", m.encode(2, 0), 16);
        due("4 blocks", m.encode(4, 0), 4);
        due("4 blocks", m.told(1), 4);
        due("9 bytes", m.told(2), 9);
        index("block 4", () -> m.block(4, 0));
        index("byte 9", () -> m.byteAt(9));
        due("16 blocks", m.encode(2, 0), 16);
        due("43 bytes", m.told(2), 43);
    }

    /** Promise 5: "as it was encoded or read last: .. error (7; NONE, if it was read)". */
    private static void promise5BlockAsItWasEncodedOrReadLast() {
        FractalMaps m = gradient4();
        index("before", () -> m.block(0, 0));
        m.encode(2, 0);
        facts("encoded", m, 0, 0, 0, 2, 0, 0, 4, -7, 0);
        feedBits(m, "001" + fit(0, 0, 1, -7, -256) + fit(0, 0, 2, 7, 767) + fit(0, 0, 3, 0, 0) + fit(0, 0, 4, 1, 1));
        m.read();
        facts("read", m, 0, 0, 0, 2, 0, 1, -7, -256, -1);
        facts("read", m, 1, 2, 0, 2, 0, 2, 7, 767, -1);
        facts("read", m, 2, 0, 2, 2, 0, 3, 0, 0, -1);
        facts("read", m, 3, 2, 2, 2, 0, 4, 1, 1, -1);
        index("one more", () -> m.block(4, 0));
        index("one below", () -> m.block(-1, 0));
        index("far below", () -> m.block(LEAST, 0));
        index("far above", () -> m.block(MOST, 0));
        // 8 numbers for a block: these would come to a place that there is, if they were multiplied as ints
        index("by wrap-around", () -> m.block(1 << 29, 0));
        index("by wrap-around", () -> m.block((1 << 29) + 1, 7));
        argument("what = -1", () -> m.block(1, -1));
        argument("what = 8", () -> m.block(0, 8));
        argument("what = 8, of the last", () -> m.block(3, 8));
        argument("far below", () -> m.block(0, LEAST));
        argument("far above", () -> m.block(0, MOST));
        m.encode(2, 0);
        facts("encoded again", m, 0, 0, 0, 2, 0, 0, 4, -7, 0);
        m.feed(255);
        due("refused", m.read(), -1);
        facts("encoded still", m, 0, 0, 0, 2, 0, 0, 4, -7, 0);
    }

    /** Promise 6: "A byte of what was encoded last." */
    private static void promise6ByteAtOfWhatWasEncodedLast() {
        FractalMaps m = gradient4();
        index("before", () -> m.byteAt(0));
        m.feed(1);
        index("what is to be read is not encoded", () -> m.byteAt(0));
        m.encode(2, 0);
        int[] bytes = {34, 207, 145, 105, 8, 180, 212, 90, 186};
        for (int i = 0; i < 9; i++) {
            due("byte " + i, m.byteAt(i), bytes[i]);
        }
        index("one more", () -> m.byteAt(9));
        index("one below", () -> m.byteAt(-1));
        index("far", () -> m.byteAt(LEAST));
        index("far", () -> m.byteAt(MOST));
        m.read();
        m.paint(0, 0, 0);
        due("as it was encoded", m.byteAt(8), 186);
    }

    /** Promise 7: "how many", "there are 2000". */
    private static void promise7FeedUpTo2000() {
        FractalMaps m = gradient4();
        m.encode(2, 0);
        due("0", m.feed(0), 1);
        due("255", m.feed(255), 2);
        argument("-1", () -> m.feed(-1));
        argument("256", () -> m.feed(256));
        argument("far", () -> m.feed(LEAST));
        argument("far", () -> m.feed(MOST));
        for (int i = 1; i <= 221; i++) {
            due("passed", m.pass(), 2 + 9 * i);
        }
        for (int i = 1992; i <= 2000; i++) {
            due("up to 2000", m.feed(1), i);
        }
        unsupported("2001", () -> m.feed(0));
        unsupported("2001", () -> m.feed(255));
        argument("no byte comes first", () -> m.feed(256));
        argument("no byte comes first", () -> m.feed(-1));
        due("2000 stay", m.told(3), 2000);
        due("0, for 000", m.read(), -1);
        due("all of them went", m.told(3), 0);
        due("room again", m.feed(3), 1);
    }

    /** Promise 8: "above 2000": 2000 are not, 2001 are. */
    private static void promise8PassUpTo2000() {
        for (int over = 0; over <= 1; over++) {
            FractalMaps m = gradient4();
            m.encode(2, 0);
            for (int i = 0; i < 2 + over; i++) {
                m.feed(32);
            }
            for (int i = 1; i <= 221; i++) {
                due("passed", m.pass(), 2 + over + 9 * i);
            }
            if (over == 0) {
                due("2000", m.pass(), 2000);
                unsupported("2009", () -> m.pass());
                due("2000 stay", m.told(3), 2000);
            } else {
                unsupported("2001", () -> m.pass());
                due("1992 stay", m.told(3), 1992);
                due("there is room for a byte", m.feed(0), 1993);
            }
        }
    }

    /** Promise 8: nothing was encoded, so that nothing comes behind. */
    private static void promise8PassNothing() {
        FractalMaps m = gradient4();
        due("nothing behind nothing", m.pass(), 0);
        m.feed(1);
        due("nothing behind one", m.pass(), 1);
        m.encode(2, 0);
        due("nine behind one", m.pass(), 10);
        m.clear();
        due("nothing, cleared", m.pass(), 0);
    }

    /** Promise 9: "What is to be read is read, and goes (refused, too)". */
    private static void promise9ReadAndItGoes() {
        FractalMaps m = gradient4();
        due("nothing", m.read(), -4);
        m.encode(2, 0);
        due("nothing still", m.read(), -4);
        due("the blocks stay", m.told(1), 4);
        m.pass();
        due("passed", m.read(), 4);
        due("it went", m.told(3), 0);
        due("nothing again", m.read(), -4);
        due("the blocks stay", m.told(1), 4);
        due("as they were read", m.block(0, 7), -1);
        m.feed(34);
        due("one byte", m.read(), -4);
        m.pass();
        due("nothing of it is left before", m.read(), 4);
    }

    /** Promise 9: "how many blocks there are then": the most, the fewest. */
    private static void promise9ReadTheMostBlocks() {
        int[] most = {4, 16, 64, 256};
        for (int number = 0; number < 4; number++) {
            FractalMaps m = new FractalMaps(number);
            noise(m);
            due("encoded", m.encode(2, 0), most[number]);
            int[] last = new int[8];
            for (int what = 0; what < 7; what++) {
                last[what] = m.block(most[number] - 1, what);
            }
            last[7] = -1;
            m.pass();
            m.encode(SIDES[number] / 2, 0);
            due("the fewest", m.told(1), 4);
            due("the most", m.read(), most[number]);
            facts("the last", m, most[number] - 1, last);
            int blocks = most[number];
            index("one more", () -> m.block(blocks, 0));
            m.pass();
            due("the fewest", m.read(), 4);
            index("they went", () -> m.block(4, 0));
        }
    }

    /** All four blocks of side 4 are alike, so that the picture stays even. */
    private static FractalMaps even(int contrast, int offset) {
        FractalMaps m = new FractalMaps(0);
        feedBits(m, "001" + fit(0, 0, 0, contrast, offset).repeat(4));
        due("read", m.read(), 4);
        return m;
    }

    /** Promise 10: "the rounds are not 1 .. 40, or the size not 0 or 1". */
    private static void promise10DecodeOneTo40Rounds() {
        FractalMaps m = even(-7, 7);
        // 128 makes 0, 0 makes 7, 7 makes 0
        for (int rounds = 1; rounds <= 40; rounds++) {
            due("rounds " + rounds, m.decode(rounds, rounds % 3 == 0 ? 1 : 0), rounds == 1 ? 128 : 7);
            due("rounds " + rounds, m.at(3, 3), rounds % 2 == 1 ? 0 : 7);
        }
        for (int rounds : new int[] {LEAST, -40, -1, 0, 41, 42, 256 + 1, MOST}) {
            argument("rounds " + rounds, () -> m.decode(rounds, 0));
        }
        for (int size : new int[] {LEAST, -1, 2, 3, 32, MOST}) {
            argument("size " + size, () -> m.decode(1, size));
        }
        due("40 rounds stay", m.at(0, 0), 7);
        FractalMaps none = new FractalMaps(0);
        state("no blocks", () -> none.decode(1, 0));
        state("no blocks", () -> none.decode(40, 1));
        argument("no such rounds comes first", () -> none.decode(0, 0));
        argument("no such size comes first", () -> none.decode(40, 2));
    }

    /** "the picture is 128 at first": at each decode() anew, whatever the picture is. */
    private static void promise10DecodeIs128AtFirst() {
        FractalMaps m = even(7, 0);
        m.paint(255, 0, 0);
        for (int i = 0; i < 3; i++) {
            due("7 * 128 / 8", m.decode(1, i % 2), 16);
            due("7 * 128 / 8", m.at(0, 0), 112);
        }
        due("7 * 112 / 8", m.decode(2, 0), 14);
        due("7 * 112 / 8", m.at(0, 0), 98);
        due("the picture stays", m.put(0, 0, 255), 255);
    }

    /** "brought to 0 .. 255". */
    private static void promise10DecodeIsBroughtTo0And255() {
        int[][] offsets = {{-256, 0}, {-1, 0}, {0, 0}, {1, 1}, {127, 127}, {254, 254}, {255, 255}, {256, 255}, {767, 255}};
        for (int[] one : offsets) {
            FractalMaps m = even(0, one[0]);
            due("offset " + one[0], m.decode(1, 0), Math.abs(one[1] - 128));
            due("offset " + one[0], m.at(2, 1), one[1]);
        }
        FractalMaps low = even(-7, 111);
        low.decode(1, 0);
        due("-112 + 111", low.at(0, 0), 0);
        FractalMaps high = even(7, 144);
        high.decode(1, 1);
        due("112 + 144", high.at(7, 7), 255);
    }

    /** "d from the half of the picture as it was before the round". */
    private static void promise10DecodeAsItWasBeforeTheRound() {
        FractalMaps m = new FractalMaps(0);
        feedBits(m, "001" + fit(0, 0, 0, 0, 0) + fit(0, 0, 0, 4, 0) + fit(0, 0, 2, 4, 0) + fit(0, 0, 0, 0, 255));
        m.read();
        m.decode(1, 0);
        due("of 128, not of 0", m.at(2, 0), 64);
        due("of 128, not of 0", m.at(1, 3), 64);
        due("in round 1", m.at(0, 0), 0);
        m.decode(2, 0);
        int[] squares = {0, 32, 32, 127};
        for (int i = 0; i < 4; i++) {
            due("as it is, " + i, m.at(2 + i % 2, i / 2), squares[i]);
            due("upside down, " + i, m.at(i % 2, 2 + i / 2), squares[3 - i]);
        }
    }

    /** "the greatest change of a sample in the last round": upward, downward, none. */
    private static void promise10DecodeTheGreatestChange() {
        FractalMaps m = new FractalMaps(0);
        feedBits(m, "001" + fit(0, 0, 0, 0, 100) + fit(0, 0, 0, 0, 130) + fit(0, 0, 0, 0, 128) + fit(0, 0, 0, 0, 127));
        m.read();
        due("downward by 28", m.decode(1, 0), 28);
        due("none", m.decode(2, 0), 0);
        due("none", m.decode(40, 1), 0);
        feedBits(m, "001" + fit(0, 0, 0, 0, 127).repeat(3) + fit(0, 0, 0, 0, 255));
        m.read();
        due("upward by 127", m.decode(1, 0), 127);
        due("none", m.decode(2, 0), 0);
        feedBits(m, "001" + fit(0, 0, 0, 0, 128).repeat(4));
        m.read();
        due("none in the first", m.decode(1, 0), 0);
    }

    /** "twice as great: then all squares of blocks and domains are, too, their places likewise". */
    private static void promise10DecodeTwiceAsGreat() {
        for (int size = 0; size <= 1; size++) {
            FractalMaps m = new FractalMaps(1);
            StringBuilder bits = new StringBuilder("001");
            for (int k = 0; k < 16; k++) {
                bits.append(k % 4 == 0 ? "1" : "");
                bits.append(k == 0 ? fit(4, 8, 1, 4, 0) : k == 15 ? fit(4, 1, 0, 4, 0) : fit(4, 0, 0, 0, 10 * k));
            }
            feedBits(m, bits.toString());
            due("read", m.read(), 16);
            m.decode(2, size);
            int times = 1 << size;
            due("side", m.told(4), 8 * times);
            // Blocks 12 to 14 are 120 130 / 140 and 64 for the last one, a turn to the right: 140 120 / 64 130.
            int[] turned = {70, 60, 32, 65};
            // Domain 1 lies at 2, 0: blocks 1 and 4 above, 3 and 6 below.
            int[] beside = {5, 20, 15, 30};
            for (int i = 0; i < 4 * times * times; i++) {
                int x = i % (2 * times);
                int y = i / (2 * times);
                int quarter = x / times + 2 * (y / times);
                due("size " + size + " the first block", m.at(x, y), turned[quarter]);
                due("size " + size + " the last block", m.at(6 * times + x, 6 * times + y), beside[quarter]);
                due("size " + size + " block 1", m.at(2 * times + x, y), 10);
                due("size " + size + " block 2", m.at(x, 2 * times + y), 20);
                due("size " + size + " block 4", m.at(4 * times + x, y), 40);
            }
        }
    }

    /** Promise 11: "there is no such sample", "also before the first one". */
    private static void promise11AtTheEdges() {
        for (int number = 0; number < 4; number++) {
            FractalMaps m = new FractalMaps(number);
            m.paint(77, 0, 0);
            index("before", () -> m.at(0, 0));
            m.encode(2, 0);
            index("encoded, but not decoded", () -> m.at(0, 0));
            for (int size = 1; size >= 0; size--) {
                m.decode(1, size);
                int side = SIDES[number] << size;
                due("last", m.at(side - 1, side - 1), 77);
                due("first", m.at(0, 0), 77);
                index("x = side", () -> m.at(side, 0));
                index("y = side", () -> m.at(0, side));
                index("x = -1", () -> m.at(-1, side - 1));
                index("y = -1", () -> m.at(side - 1, -1));
                index("far", () -> m.at(LEAST, MOST));
                index("far", () -> m.at(MOST, 0));
            }
            m.clear();
            index("cleared", () -> m.at(0, 0));
        }
    }

    /** Promise 12: "IllegalState: the latest one was at size 1, or there is none." */
    private static void promise12MissedOfWhatDiffers() {
        FractalMaps m = even(0, 100);
        state("none", () -> m.missed());
        m.decode(1, 1);
        state("at size 1", () -> m.missed());
        m.decode(1, 0);
        due("100 for each of 16", m.missed(), 160000);
        m.paint(100, 0, 0);
        due("nothing", m.missed(), 0);
        m.put(3, 3, 101);
        m.put(0, 0, 97);
        due("above and below", m.missed(), 1 + 9);
        m.decode(1, 1);
        state("at size 1 again", () -> m.missed());
        argument("refused", () -> m.decode(41, 0));
        state("still at size 1", () -> m.missed());
        m.decode(1, 0);
        argument("refused", () -> m.decode(41, 1));
        due("still at size 0", m.missed(), 10);
        FractalMaps most = new FractalMaps(3);
        most.encode(16, 0);
        most.decode(1, 0);
        most.paint(255, 0, 0);
        due("the most", most.missed(), 66585600L);
        m.clear();
        state("cleared", () -> m.missed());
    }

    /** Promise 13: "of the picture as it is now", and what there is not. */
    private static void promise13DomainAsItIsNow() {
        FractalMaps m = new FractalMaps(1);
        m.encode(2, 0);
        m.decode(1, 0);
        due("before", m.domain(2, 8, 0, 1, 1), 0);
        m.put(7, 7, 40);
        due("now", m.domain(2, 8, 0, 1, 1), 10);
        due("now", m.domain(4, 0, 2, 0, 0), 10);
        m.decode(1, 1);
        due("of the picture, not of what was decoded", m.domain(2, 8, 0, 1, 1), 10);
        for (int size : new int[] {LEAST, -4, -1, 0, 1, 3, 5, 6, 7, 8, 16, 32, MOST}) {
            argument("size " + size, () -> m.domain(size, 0, 0, 0, 0));
        }
        for (int turn : new int[] {LEAST, -1, 8, MOST}) {
            argument("turn " + turn, () -> m.domain(2, 0, turn, 0, 0));
        }
        for (int domain : new int[] {LEAST, -1, 9, 10, MOST}) {
            index("domain " + domain, () -> m.domain(2, domain, 0, 0, 0));
            index("domain " + domain, () -> m.domain(4, domain, 0, 0, 0));
        }
        for (int place : new int[] {LEAST, -1, 2, 3, 4, MOST}) {
            index("x " + place, () -> m.domain(2, 8, 7, place, 1));
            index("y " + place, () -> m.domain(2, 8, 7, 1, place));
        }
        argument("the size comes before the domain", () -> m.domain(8, 9, 0, 0, 0));
        argument("the turn comes before the domain", () -> m.domain(2, 9, 8, 0, 0));
        argument("the turn comes before the sample", () -> m.domain(2, 0, -1, -1, -1));
    }

    /** Promise 14: "IllegalArgument: the size is not 2, 4, 8, 16; IndexOutOfBounds: it is not all in the picture." */
    private static void promise14KindAllInThePicture() {
        for (int number = 0; number < 4; number++) {
            FractalMaps m = new FractalMaps(number);
            int side = SIDES[number];
            m.put(side - 1, side - 1, 1);
            for (int size = 2; size <= 16; size *= 2) {
                int n = size;
                int last = side - n;
                if (last < 0) {
                    index("size " + n + " in " + side, () -> m.kind(0, 0, n));
                    continue;
                }
                due("the last place", m.kind(last, last, n), 3);
                due("the first place", m.kind(0, 0, n), n == side ? 3 : 0);
                index("one to the right", () -> m.kind(last + 1, last, n));
                index("one below", () -> m.kind(last, last + 1, n));
                index("x = -1", () -> m.kind(-1, 0, n));
                index("y = -1", () -> m.kind(0, -1, n));
                index("far", () -> m.kind(MOST, 0, n));
                index("far", () -> m.kind(0, LEAST, n));
            }
            for (int size : new int[] {LEAST, -2, 0, 1, 3, 5, 6, 7, 9, 12, 15, 17, 32, 64, MOST}) {
                argument("size " + size, () -> m.kind(0, 0, size));
                argument("size " + size + " comes first", () -> m.kind(-1, MOST, size));
            }
        }
    }

    /** Promise 15: "(for blocks that were split then, too), at the latest encode(); 0 before". */
    private static void promise15TriedInAll() {
        FractalMaps m = new FractalMaps(1);
        due("before", m.tried(), 0);
        m.put(0, 0, 200);
        due("before", m.tried(), 0);
        due("a spot", m.encode(2, 0), 7);
        // Two turns for four blocks of 4; then, for four of 2, two turns of the domain with the spot, all of eight.
        due("a spot", m.tried(), 4 * 2 + 4 * (2 + 8 * 8));
        due("not split", m.encode(2, MOST), 4);
        due("at the latest", m.tried(), 8);
        argument("refused", () -> m.encode(8, 0));
        m.pass();
        m.read();
        due("at the latest still", m.tried(), 8);
        m.clear();
        due("cleared", m.tried(), 0);
        FractalMaps most = new FractalMaps(3);
        most.paint(1, 0, 0);
        most.encode(2, 0);
        due("even", most.tried(), 32);
    }

    /** Promise 16: "(4; 0 before); NONE for another what". */
    private static void promise16ToldOfEach() {
        for (int number = 0; number < 4; number++) {
            FractalMaps m = new FractalMaps(number);
            int side = SIDES[number];
            int[] first = {side, 0, 0, 0, 0};
            toldIs("new", m, first);
            m.feed(1);
            toldIs("fed", m, new int[] {side, 0, 0, 1, 0});
            m.encode(side / 2, 0);
            toldIs("encoded", m, new int[] {side, 4, 9, 1, 0});
            m.decode(1, 1);
            toldIs("decoded twice as great", m, new int[] {side, 4, 9, 1, 2 * side});
            m.decode(1, 0);
            toldIs("decoded", m, new int[] {side, 4, 9, 1, side});
            m.read();
            toldIs("refused", m, new int[] {side, 4, 9, 0, side});
            m.clear();
            toldIs("cleared", m, first);
        }
    }

    private static void toldIs(String name, FractalMaps m, int[] due) {
        for (int what = 0; what < 5; what++) {
            due(name + ", told " + what, m.told(what), due[what]);
        }
        for (int what : new int[] {LEAST, -1, 5, 6, MOST}) {
            due(name + ", told " + what, m.told(what), -1);
        }
    }

    /** Promise 17: "Samples are 0; no blocks, nothing was encoded, decoded, tried, nothing is to be read." */
    private static void promise17ClearIsLikeNew() {
        FractalMaps m = gradient4();
        m.encode(2, 0);
        m.decode(3, 1);
        m.feed(9);
        m.pass();
        m.clear();
        dueText("cleared", allOf(m), allOf(new FractalMaps(0)));
        m.clear();
        dueText("cleared twice", allOf(m), allOf(new FractalMaps(0)));
        FractalMaps again = new FractalMaps(0);
        again.clear();
        again.paint(10, 20, 30);
        again.encode(2, 0);
        again.clear();
        again.paint(10, 20, 30);
        again.encode(2, 0);
        FractalMaps once = gradient4();
        once.encode(2, 0);
        dueText("goes on as new", allOf(again), allOf(once));
        for (int number = 0; number < 4; number++) {
            FractalMaps one = new FractalMaps(number);
            noise(one);
            one.encode(2, 0);
            one.decode(1, 0);
            one.clear();
            due("the side stays", one.told(0), SIDES[number]);
            due("every sample is 0", one.paint(0, 0, 0), 0);
            state("no blocks", () -> one.decode(1, 0));
            state("nothing was decoded", () -> one.missed());
            index("nothing was decoded", () -> one.at(0, 0));
            index("no blocks", () -> one.block(0, 0));
            index("nothing was encoded", () -> one.byteAt(0));
        }
    }
}
