import java.util.Arrays;

/**
 * Grey pictures told by likeness: each square of a picture from a square of the same picture twice
 * as great, turned, shrunk, with another contrast and brightness; put together again by rounds.
 */
public final class FractalMaps {
    public static final int NONE = -1;

    private static final int GREATEST_SAMPLE = 255;
    private static final int EVEN_GREY = 128;
    private static final int LEAST_SIZE = 2;
    private static final int MOST_WAITING = 2000;
    private static final int MOST_ROUNDS = 40;
    private static final int TURNS = 8;

    private static final int STEEPEST = 7;
    private static final int BELOW_OFFSETS = 256;

    private static final int SIZE_BITS = 3;
    private static final int TURN_BITS = 3;
    private static final int CONTRAST_BITS = 4;
    private static final int OFFSET_BITS = 10;
    private static final int BYTE_BITS = 8;

    private static final int NO_SUCH_SIZE = 0;
    private static final int NO_SUCH_DOMAIN = 1;
    private static final int NO_SUCH_CONTRAST = 2;
    private static final int BIT_LACKS = 3;
    private static final int BITS_LEFT = 4;

    private final int side;
    private final Grid picture;
    private final Grid shown;
    private final Grid half;
    private final View view;
    private final Search search;
    private final Blocks blocks;
    private final Fit fitRead;
    private final Bits encoded;
    private final Bits waiting;

    public FractalMaps(int side) {
        this.side = 4 << Math.max(0, Math.min(side, 3));
        picture = new Grid(this.side, this.side);
        shown = new Grid(2 * this.side, 0);
        half = new Grid(this.side, 0);
        view = new View(half);
        search = new Search(picture, half, view);
        blocks = new Blocks(this.side * this.side / (LEAST_SIZE * LEAST_SIZE));
        fitRead = new Fit();
        // A block of the least size has the most bits for its samples, and these are below 8 for each.
        encoded = new Bits(this.side * this.side);
        waiting = new Bits(MOST_WAITING);
    }

    public int put(int x, int y, int v) throws IndexOutOfBoundsException, IllegalArgumentException {
        if (!picture.has(x, y)) {
            throw new IndexOutOfBoundsException("no such sample");
        }
        if (v < 0 || v > GREATEST_SAMPLE) {
            throw new IllegalArgumentException("a sample is 0 to 255");
        }
        int before = picture.sample(x, y);
        picture.set(x, y, v);
        return before;
    }

    public int paint(int v, int across, int down) {
        int others = 0;
        for (int y = 0; y < side; y++) {
            for (int x = 0; x < side; x++) {
                // long, because the steps may be any int and the sum is to be exact
                long grey = v + (long) across * x + (long) down * y;
                int sample = (int) brought(grey, 0, GREATEST_SAMPLE);
                if (sample != picture.sample(x, y)) {
                    others++;
                }
                picture.set(x, y, sample);
            }
        }
        return others;
    }

    public int encode(int least, int bound) throws IllegalArgumentException {
        if (!isSize(least) || least > side / 2) {
            throw new IllegalArgumentException("no such least size");
        }
        if (bound < 0) {
            throw new IllegalArgumentException("the bound is below 0");
        }
        blocks.wipe();
        encoded.wipe();
        search.start();
        encoded.append(sizeNumber(least), SIZE_BITS);
        encodeQuarters(0, 0, side / 2, least, bound);
        return blocks.count;
    }

    public int block(int k, int what) throws IndexOutOfBoundsException, IllegalArgumentException {
        if (k < 0 || k >= blocks.count) {
            throw new IndexOutOfBoundsException("no such block");
        }
        if (what < 0 || what >= Blocks.FACTS) {
            throw new IllegalArgumentException("nothing such is told of a block");
        }
        return blocks.fact(k, what);
    }

    public int byteAt(int i) throws IndexOutOfBoundsException {
        if (i < 0 || i >= encoded.bytes()) {
            throw new IndexOutOfBoundsException("no such byte");
        }
        return encoded.byteOf(i);
    }

    public int feed(int b) throws IllegalArgumentException, UnsupportedOperationException {
        if (b < 0 || b > 255) {
            throw new IllegalArgumentException("a byte is 0 to 255");
        }
        if (waiting.bytes() >= MOST_WAITING) {
            throw new UnsupportedOperationException("as many bytes wait as may");
        }
        waiting.append(b, BYTE_BITS);
        return waiting.bytes();
    }

    public int pass() throws UnsupportedOperationException {
        int more = encoded.bytes();
        if (waiting.bytes() + more > MOST_WAITING) {
            throw new UnsupportedOperationException("more bytes would wait than may");
        }
        for (int i = 0; i < more; i++) {
            waiting.append(encoded.byteOf(i), BYTE_BITS);
        }
        return waiting.bytes();
    }

    public int read() {
        // The first going through only looks, so that a refusal leaves the blocks as they were.
        int why = readWaiting(false);
        if (why == NONE) {
            blocks.wipe();
            readWaiting(true);
        }
        waiting.wipe();
        return why == NONE ? blocks.count : NONE - why;
    }

    public int decode(int rounds, int size) throws IllegalArgumentException, IllegalStateException {
        if (rounds < 1 || rounds > MOST_ROUNDS) {
            throw new IllegalArgumentException("the rounds are 1 to 40");
        }
        if (size < 0 || size > 1) {
            throw new IllegalArgumentException("the size is 0 or 1");
        }
        if (blocks.count == 0) {
            throw new IllegalStateException("there are no blocks");
        }
        shown.become(side << size, EVEN_GREY);
        int change = 0;
        for (int round = 0; round < rounds; round++) {
            change = decodeRound(size);
        }
        return change;
    }

    public int at(int x, int y) throws IndexOutOfBoundsException {
        if (!shown.has(x, y)) {
            throw new IndexOutOfBoundsException("no such sample was decoded");
        }
        return shown.sample(x, y);
    }

    public long missed() throws IllegalStateException {
        if (shown.side != side) {
            throw new IllegalStateException("the latest decoding was at size 1, or there is none");
        }
        long sum = 0;
        for (int y = 0; y < side; y++) {
            for (int x = 0; x < side; x++) {
                long apart = picture.sample(x, y) - shown.sample(x, y);
                sum += apart * apart;
            }
        }
        return sum;
    }

    public int domain(int size, int domain, int turn, int x, int y)
            throws IllegalArgumentException, IndexOutOfBoundsException {
        if (!isSize(size) || size > side / 2) {
            throw new IllegalArgumentException("no such size");
        }
        if (turn < 0 || turn >= TURNS) {
            throw new IllegalArgumentException("a turn is 0 to 7");
        }
        if (domain < 0 || domain >= domainsOf(side, size)) {
            throw new IndexOutOfBoundsException("no such domain");
        }
        if (x < 0 || x >= size || y < 0 || y >= size) {
            throw new IndexOutOfBoundsException("no such sample of a domain");
        }
        half.becomeHalfOf(picture);
        view.aim(size, domain, turn);
        return view.sample(x, y);
    }

    public int kind(int x, int y, int size) throws IllegalArgumentException, IndexOutOfBoundsException {
        if (!isSize(size)) {
            throw new IllegalArgumentException("no such size");
        }
        if (x < 0 || x > side - size || y < 0 || y > side - size) {
            throw new IndexOutOfBoundsException("the square is not all in the picture");
        }
        return picture.brightestQuarter(x, y, size);
    }

    public int tried() {
        return search.tried;
    }

    public int told(int what) {
        switch (what) {
            case 0:
                return side;
            case 1:
                return blocks.count;
            case 2:
                return encoded.bytes();
            case 3:
                return waiting.bytes();
            case 4:
                return shown.side;
            default:
                return NONE;
        }
    }

    public void clear() {
        picture.become(side, 0);
        shown.become(0, 0);
        blocks.wipe();
        encoded.wipe();
        waiting.wipe();
        search.tried = 0;
    }

    /** The four squares of a size whose upper left corner, together, is at x, y. */
    private void encodeQuarters(int x, int y, int size, int least, int bound) {
        if (size < LEAST_SIZE) {
            return;
        }
        for (int quarter = 0; quarter < 4; quarter++) {
            encodeSquare(x + acrossOf(quarter) * size, y + downOf(quarter) * size, size, least, bound);
        }
    }

    private void encodeSquare(int x, int y, int size, int least, int bound) {
        search.findBest(x, y, size);
        boolean split = size > least && search.best.error > bound;
        if (size > least) {
            encoded.append(split ? 1 : 0, 1);
        }
        if (split) {
            encodeQuarters(x, y, size / 2, least, bound);
        } else {
            blocks.add(x, y, size, search.best);
            writeFit(size, search.best);
        }
    }

    private void writeFit(int size, Fit fit) {
        encoded.append(fit.domain, domainBits(size));
        encoded.append(fit.turn, TURN_BITS);
        encoded.append(fit.contrast + STEEPEST, CONTRAST_BITS);
        encoded.append(fit.offset + BELOW_OFFSETS, OFFSET_BITS);
    }

    /** Why what waits is refused, or NONE; the blocks are added to the others only if they are to be kept. */
    private int readWaiting(boolean keep) {
        waiting.rewind();
        int number = waiting.take(SIZE_BITS);
        if (number == NONE) {
            return BIT_LACKS;
        }
        int least = 1 << number;
        if (!isSize(least) || least > side / 2) {
            return NO_SUCH_SIZE;
        }
        int why = readQuarters(0, 0, side / 2, least, keep);
        if (why != NONE) {
            return why;
        }
        return waiting.restIsFilling() ? NONE : BITS_LEFT;
    }

    private int readQuarters(int x, int y, int size, int least, boolean keep) {
        if (size < LEAST_SIZE) {
            return NO_SUCH_SIZE;
        }
        int why = NONE;
        for (int quarter = 0; quarter < 4 && why == NONE; quarter++) {
            why = readSquare(x + acrossOf(quarter) * size, y + downOf(quarter) * size, size, least, keep);
        }
        return why;
    }

    private int readSquare(int x, int y, int size, int least, boolean keep) {
        int split = size > least ? waiting.take(1) : 0;
        if (split == NONE) {
            return BIT_LACKS;
        }
        if (split == 1) {
            return readQuarters(x, y, size / 2, least, keep);
        }
        int why = readFit(size);
        if (why == NONE && keep) {
            blocks.add(x, y, size, fitRead);
        }
        return why;
    }

    private int readFit(int size) {
        int domain = waiting.take(domainBits(size));
        if (domain == NONE) {
            return BIT_LACKS;
        }
        if (domain >= domainsOf(side, size)) {
            return NO_SUCH_DOMAIN;
        }
        int turn = waiting.take(TURN_BITS);
        if (turn == NONE) {
            return BIT_LACKS;
        }
        int contrast = waiting.take(CONTRAST_BITS);
        if (contrast == NONE) {
            return BIT_LACKS;
        }
        if (contrast - STEEPEST > STEEPEST) {
            return NO_SUCH_CONTRAST;
        }
        int offset = waiting.take(OFFSET_BITS);
        if (offset == NONE) {
            return BIT_LACKS;
        }
        fitRead.become(domain, turn, contrast - STEEPEST, offset - BELOW_OFFSETS, NONE);
        return NONE;
    }

    /** The greatest change of a sample in this round. */
    private int decodeRound(int scale) {
        half.becomeHalfOf(shown);
        int change = 0;
        for (int k = 0; k < blocks.count; k++) {
            change = Math.max(change, decodeBlock(k, scale));
        }
        return change;
    }

    private int decodeBlock(int k, int scale) {
        int left = blocks.fact(k, Blocks.X) << scale;
        int top = blocks.fact(k, Blocks.Y) << scale;
        int size = blocks.fact(k, Blocks.SIZE) << scale;
        int contrast = blocks.fact(k, Blocks.CONTRAST);
        int offset = blocks.fact(k, Blocks.OFFSET);
        view.aim(size, blocks.fact(k, Blocks.DOMAIN), blocks.fact(k, Blocks.TURN));
        int change = 0;
        for (int y = 0; y < size; y++) {
            for (int x = 0; x < size; x++) {
                int grey = dimmed(view.sample(x, y), contrast) + offset;
                int sample = (int) brought(grey, 0, GREATEST_SAMPLE);
                change = Math.max(change, Math.abs(sample - shown.sample(left + x, top + y)));
                shown.set(left + x, top + y, sample);
            }
        }
        return change;
    }

    /** As few bits as do for the number of every domain of a size. */
    private int domainBits(int size) {
        int domains = domainsOf(side, size);
        int bits = 0;
        while (bits < BYTE_BITS && (1 << bits) < domains) {
            bits++;
        }
        return bits;
    }

    private static boolean isSize(int size) {
        return size == 2 || size == 4 || size == 8 || size == 16;
    }

    private static int sizeNumber(int size) {
        int number = 1;
        while (number < 4 && (1 << number) < size) {
            number++;
        }
        return number;
    }

    private static int domainsAcross(int side, int size) {
        return size < 1 || size > side ? 0 : side / size - 1;
    }

    private static int domainsOf(int side, int size) {
        int across = domainsAcross(side, size);
        return across * across;
    }

    private static int acrossOf(int quarter) {
        return quarter & 1;
    }

    private static int downOf(int quarter) {
        return quarter >> 1;
    }

    private static long brought(long number, long least, long most) {
        return Math.max(least, Math.min(number, most));
    }

    private static int dimmed(int sample, int contrast) {
        return Math.floorDiv(contrast * sample, 8);
    }

    /** The quotient to the nearest, of two the greater; 0 if there is none. */
    private static long nearest(long number, long divisor) {
        return divisor <= 0 ? 0 : Math.floorDiv(2 * number + divisor, 2 * divisor);
    }

    /** A square picture whose side may change up to the one that it was made for. */
    private static final class Grid {
        private final int mostSide;
        private final int[] cells;
        private int side;

        Grid(int mostSide, int side) {
            this.mostSide = Math.max(1, Math.min(mostSide, 64));
            this.side = Math.max(0, Math.min(side, this.mostSide));
            cells = new int[this.mostSide * this.mostSide];
        }

        boolean has(int x, int y) {
            return x >= 0 && x < side && y >= 0 && y < side;
        }

        int sample(int x, int y) {
            return x >= 0 && x < side && y >= 0 && y < side ? cells[y * side + x] : 0;
        }

        void set(int x, int y, int sample) {
            if (has(x, y)) {
                cells[y * side + x] = sample;
            }
        }

        void become(int newSide, int grey) {
            side = Math.max(0, Math.min(newSide, mostSide));
            Arrays.fill(cells, grey);
        }

        void becomeHalfOf(Grid whole) {
            side = Math.min(whole.side / 2, mostSide);
            for (int y = 0; y < side; y++) {
                for (int x = 0; x < side; x++) {
                    set(x, y, (whole.sum(2 * x, 2 * y, 2) + 2) / 4);
                }
            }
        }

        int sum(int left, int top, int size) {
            int sum = 0;
            for (int y = 0; y < size; y++) {
                for (int x = 0; x < size; x++) {
                    sum += sample(left + x, top + y);
                }
            }
            return sum;
        }

        /** The CLASS of a square. */
        int brightestQuarter(int left, int top, int size) {
            int part = size / 2;
            int brightest = 0;
            int greatest = NONE;
            for (int quarter = 0; quarter < 4; quarter++) {
                int sum = sum(left + acrossOf(quarter) * part, top + downOf(quarter) * part, part);
                if (sum > greatest) {
                    greatest = sum;
                    brightest = quarter;
                }
            }
            return brightest;
        }
    }

    /** A domain of the picture whose half is given, shrunk and turned. */
    private static final class View {
        private final Grid half;
        private int left;
        private int top;
        private int start;
        private int stepAcross;
        private int stepDown;

        View(Grid half) {
            this.half = half;
        }

        void aim(int size, int domain, int turn) {
            int across = domainsAcross(2 * half.side, size);
            left = across < 1 ? 0 : domain % across * (size / 2);
            top = across < 1 ? 0 : domain / across * (size / 2);
            // Every turn is even steps through the cells: three of them tell where all the others are.
            start = cellFor(size, turn, 0, 0);
            stepAcross = cellFor(size, turn, 1, 0) - start;
            stepDown = cellFor(size, turn, 0, 1) - start;
        }

        int sample(int x, int y) {
            int cell = start + x * stepAcross + y * stepDown;
            return cell >= 0 && cell < half.cells.length ? half.cells[cell] : 0;
        }

        private int cellFor(int size, int turn, int x, int y) {
            return (top + sourceDown(size, turn, x, y)) * half.side + left + sourceAcross(size, turn, x, y);
        }

        /** Where, from the left, the sample was that a turn brings to x, y. */
        private static int sourceAcross(int size, int turn, int x, int y) {
            int last = size - 1;
            int quarterTurns = turn & 3;
            int along = quarterTurns == 0 || quarterTurns == 2 ? x : y;
            int mirrored = quarterTurns < 2 ? along : last - along;
            return turn < 4 ? mirrored : last - mirrored;
        }

        /** Where, from above, the sample was that a turn brings to x, y. */
        private static int sourceDown(int size, int turn, int x, int y) {
            int last = size - 1;
            int quarterTurns = turn & 3;
            int along = quarterTurns == 0 || quarterTurns == 2 ? y : x;
            return quarterTurns == 0 || quarterTurns == 3 ? along : last - along;
        }

        /** Which quarter was it that a turn brings to the place of this one? */
        static int sourceQuarter(int turn, int quarter) {
            int x = acrossOf(quarter);
            int y = downOf(quarter);
            return 2 * sourceDown(2, turn, x, y) + sourceAcross(2, turn, x, y);
        }
    }

    /** How a block is told by a domain. */
    private static final class Fit {
        private int domain;
        private int turn;
        private int contrast;
        private int offset;
        private int error;

        void become(int domain, int turn, int contrast, int offset, int error) {
            this.domain = domain;
            this.turn = turn;
            this.contrast = contrast;
            this.offset = offset;
            this.error = error;
        }
    }

    /** What is told of each block, eight numbers for one. */
    private static final class Blocks {
        static final int X = 0;
        static final int Y = 1;
        static final int SIZE = 2;
        static final int DOMAIN = 3;
        static final int TURN = 4;
        static final int CONTRAST = 5;
        static final int OFFSET = 6;
        static final int ERROR = 7;
        static final int FACTS = 8;

        private final int[] facts;
        private int count;

        Blocks(int most) {
            facts = new int[FACTS * Math.max(1, Math.min(most, 256))];
        }

        void wipe() {
            count = 0;
        }

        void add(int x, int y, int size, Fit fit) {
            int first = FACTS * count;
            if (first + ERROR >= facts.length) {
                return;
            }
            facts[first + X] = x;
            facts[first + Y] = y;
            facts[first + SIZE] = size;
            facts[first + DOMAIN] = fit.domain;
            facts[first + TURN] = fit.turn;
            facts[first + CONTRAST] = fit.contrast;
            facts[first + OFFSET] = fit.offset;
            facts[first + ERROR] = fit.error;
            count++;
        }

        int fact(int k, int what) {
            if (k < 0 || k >= count || what < 0 || what >= FACTS) {
                return NONE;
            }
            return facts[FACTS * k + what];
        }
    }

    /** A row of bits, the highest first in each byte; its last byte is filled with 0. */
    private static final class Bits {
        private final int[] row;
        private int filled;
        private int taken;

        Bits(int mostBytes) {
            row = new int[Math.max(1, Math.min(mostBytes, MOST_WAITING))];
        }

        void wipe() {
            filled = 0;
            taken = 0;
        }

        void rewind() {
            taken = 0;
        }

        int bytes() {
            return (filled + BYTE_BITS - 1) / BYTE_BITS;
        }

        int byteOf(int i) {
            return i >= 0 && i < row.length ? row[i] : 0;
        }

        void append(int number, int width) {
            for (int place = width - 1; place >= 0; place--) {
                appendBit(number >> place & 1);
            }
        }

        private void appendBit(int bit) {
            int i = filled / BYTE_BITS;
            if (i < 0 || i >= row.length) {
                return;
            }
            int place = filled % BYTE_BITS;
            // What an earlier use of the row left in this byte goes with its first bit.
            int before = place == 0 ? 0 : row[i];
            row[i] = before | bit << (BYTE_BITS - 1 - place);
            filled++;
        }

        /** The next number of so many bits; NONE if one lacks. */
        int take(int width) {
            if (filled - taken < width) {
                return NONE;
            }
            int number = 0;
            for (int i = 0; i < width; i++) {
                number = 2 * number + bitAt(taken + i);
            }
            taken += width;
            return number;
        }

        private int bitAt(int i) {
            return byteOf(i / BYTE_BITS) >> (BYTE_BITS - 1 - i % BYTE_BITS) & 1;
        }

        /** Is what was not taken no more than the 0 bits that fill a last byte? */
        boolean restIsFilling() {
            if (filled - taken >= BYTE_BITS) {
                return false;
            }
            for (int i = taken; i < filled; i++) {
                if (bitAt(i) != 0) {
                    return false;
                }
            }
            return true;
        }
    }

    /** Looks for the domain, and its turn, that is most like a block. */
    private static final class Search {
        private final Grid picture;
        private final Grid half;
        private final View view;
        private final int[] wanted;
        private final int[] found;
        private final int[] quarterSums;
        private final int[] sourceQuarters;
        private final Fit best;
        private int tried;
        private int size;
        private int count;
        private int wantedSum;
        private int foundSum;
        private int foundSquares;

        Search(Grid picture, Grid half, View view) {
            this.picture = picture;
            this.half = half;
            this.view = view;
            int room = picture.cells.length / 4;
            wanted = new int[room];
            found = new int[room];
            quarterSums = new int[4];
            sourceQuarters = new int[TURNS];
            best = new Fit();
        }

        void start() {
            tried = 0;
            half.becomeHalfOf(picture);
        }

        void findBest(int x, int y, int blockSize) {
            takeBlock(x, y, blockSize);
            best.become(0, 0, 0, 0, NONE);
            int domains = domainsOf(picture.side, blockSize);
            for (int domain = 0; domain < domains; domain++) {
                int greatest = measure(domain);
                for (int turn = 0; turn < TURNS; turn++) {
                    if (quarterSums[sourceQuarters[turn] & 3] == greatest) {
                        tried++;
                        tryTurn(domain, turn);
                    }
                }
            }
        }

        private void takeBlock(int left, int top, int blockSize) {
            size = blockSize;
            count = Math.min(blockSize * blockSize, wanted.length);
            int brightest = picture.brightestQuarter(left, top, blockSize);
            for (int turn = 0; turn < TURNS; turn++) {
                sourceQuarters[turn] = View.sourceQuarter(turn, brightest);
            }
            wantedSum = picture.sum(left, top, blockSize);
            int i = 0;
            for (int y = 0; y < blockSize; y++) {
                for (int x = 0; x < blockSize && i < wanted.length; x++) {
                    wanted[i] = picture.sample(left + x, top + y);
                    i++;
                }
            }
        }

        /** Sums that no turn changes; answers the greatest of the four quarters. */
        private int measure(int domain) {
            view.aim(size, domain, 0);
            int part = size / 2;
            int greatest = 0;
            foundSum = 0;
            for (int quarter = 0; quarter < 4; quarter++) {
                int sum = half.sum(view.left + acrossOf(quarter) * part, view.top + downOf(quarter) * part, part);
                quarterSums[quarter] = sum;
                foundSum += sum;
                greatest = Math.max(greatest, sum);
            }
            foundSquares = 0;
            for (int y = 0; y < size; y++) {
                for (int x = 0; x < size; x++) {
                    int sample = view.sample(x, y);
                    foundSquares += sample * sample;
                }
            }
            return greatest;
        }

        private void tryTurn(int domain, int turn) {
            view.aim(size, domain, turn);
            takeDomain();
            int contrast = contrastWanted();
            int sum = 0;
            int squares = 0;
            for (int i = 0; i < count; i++) {
                int rest = wanted[i] - dimmed(found[i], contrast);
                sum += rest;
                squares += rest * rest;
            }
            int offset = (int) nearest(sum, count);
            // The sum of (rest - offset) squared, without going through the samples again.
            int error = squares - 2 * offset * sum + count * offset * offset;
            if (best.error == NONE || error < best.error) {
                best.become(domain, turn, contrast, offset, error);
            }
        }

        private void takeDomain() {
            int i = 0;
            for (int y = 0; y < size; y++) {
                for (int x = 0; x < size && i < found.length; x++) {
                    found[i] = view.sample(x, y);
                    i++;
                }
            }
        }

        private int contrastWanted() {
            long spread = (long) count * foundSquares - (long) foundSum * foundSum;
            if (spread <= 0) {
                return 0;
            }
            long products = 0;
            for (int i = 0; i < count; i++) {
                products += (long) wanted[i] * found[i];
            }
            long alike = count * products - (long) foundSum * wantedSum;
            return (int) brought(nearest(8 * alike, spread), -STEEPEST, STEEPEST);
        }
    }
}
