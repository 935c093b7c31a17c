import java.util.ArrayList;
import java.util.List;
import java.util.Random;
import java.util.Set;

/**
 * Runs of many calls, with wrong inputs among them, on the class and on a slow model of the document that is
 * written another way (pictures as tables that are really turned, bits as text): both must answer alike.
 * No object is used for more than the document's 512 calls: a new one does again what changed the one before.
 */
public final class ModelTest {
    private static int wrong = 0;
    private static long calls = 0;
    private static final Set<String> CHANGING =
        Set.of("put", "paint", "encode", "feed", "pass", "read", "decode", "clear");
    private static final int MOST_CALLS = 512;
    private static final int MOST_CHANGES = 380;
    private static final int[] refusals = new int[5];
    private static int read = 0;
    private static int filled = 0;

    public static void main(String[] args) {
        for (int seed = 1; seed <= 240 && wrong < 20; seed++) {
            run(seed);
        }
        for (int why = 0; why < 5; why++) {
            if (refusals[why] == 0) {
                wrong++;
                System.out.println("no run was refused for " + why);
            }
        }
        if (read == 0) {
            wrong++;
            System.out.println("no run read anything");
        }
        if (filled == 0) {
            wrong++;
            System.out.println("no run had as much to be read as may be");
        }
        System.out.println(wrong == 0 ? calls + " calls, all as due" : wrong + " answers not as due");
        if (wrong != 0) {
            System.exit(1);
        }
    }

    private static void run(int seed) {
        Random random = new Random(seed);
        int number = seed % 12 == 0 ? random.nextInt() : random.nextInt(100) < 12 ? 3 : random.nextInt(3);
        Pair pair = new Pair(seed, number);
        int encodings = pair.model.side == 32 ? 2 : 8;
        int decodings = pair.model.side == 32 ? 3 : 8;
        picture(pair, random);
        for (int i = 0; i < 280 && pair.changes.size() < MOST_CHANGES; i++) {
            int which = random.nextInt(100);
            if (which < 8 && encodings > 0) {
                encodings--;
                pair.call("encode", least(random, pair.model.side), bound(random));
                everything(pair, random, 200);
            } else if (which < 16 && decodings > 0) {
                decodings--;
                pair.call("decode", random.nextInt(8) == 0 ? odd(random) : 1 + random.nextInt(12), near(random, 0, 1));
                pair.call("missed");
                pair.compareShown(random, 200);
            } else if (which < 30) {
                reading(pair, random);
            } else if (which < 33) {
                pair.call("paint", wide(random), wide(random) / 8, wide(random) / 8);
            } else if (which < 34 && random.nextInt(4) == 0) {
                pair.call("clear");
                picture(pair, random);
            } else {
                small(pair, random, which);
            }
        }
        everything(pair, random, 1000);
        pair.compareShown(random, 1000);
    }

    private static void small(Pair pair, Random random, int which) {
        int side = pair.model.side;
        if (which < 44) {
            pair.call("put", near(random, 0, side - 1), near(random, 0, side - 1), near(random, 0, 255));
        } else if (which < 54) {
            int size = 2 << random.nextInt(4);
            int across = Math.max(1, side / Math.max(1, size) - 1);
            pair.call("domain", random.nextInt(9) == 0 ? odd(random) : size, near(random, 0, across * across - 1),
                near(random, 0, 7), near(random, 0, size - 1), near(random, 0, size - 1));
        } else if (which < 62) {
            int size = 2 << random.nextInt(4);
            pair.call("kind", near(random, 0, Math.max(0, side - size)), near(random, 0, Math.max(0, side - size)),
                random.nextInt(9) == 0 ? odd(random) : size);
        } else if (which < 70) {
            pair.call("at", near(random, 0, 2 * side - 1), near(random, 0, side - 1));
        } else if (which < 78) {
            pair.call("block", near(random, 0, Math.max(0, pair.model.blocks.size() - 1)), near(random, 0, 7));
        } else if (which < 86) {
            pair.call("byteAt", near(random, 0, Math.max(0, pair.model.encoded.length() / 8)));
        } else if (which < 90) {
            pair.call("feed", near(random, 0, 255));
        } else if (which < 92) {
            pair.call("pass");
        } else if (which < 94) {
            pair.call("missed");
        } else if (which < 96) {
            pair.call("tried");
        } else {
            pair.call("told", near(random, 0, 4));
        }
    }

    private static void picture(Pair pair, Random random) {
        int side = pair.model.side;
        if (random.nextInt(4) > 0) {
            pair.call("paint", random.nextInt(256), random.nextInt(41) - 20, random.nextInt(41) - 20);
        }
        int kind = random.nextInt(4);
        int room = Math.max(0, MOST_CHANGES - 100 - pair.changes.size());
        int puts = Math.min(room, kind == 0 ? 0 : kind == 1 ? side : Math.min(side * side, 200));
        for (int i = 0; i < puts; i++) {
            int v = random.nextInt(3) == 0 ? random.nextInt(2) * 255 : random.nextInt(256);
            pair.call("put", kind == 3 ? i % side : random.nextInt(side), kind == 3 ? i / side : random.nextInt(side), v);
        }
    }

    /** Bytes that are much like an encoding's: whole, with a bit changed, cut, longer, or made up. */
    private static void reading(Pair pair, Random random) {
        int how = random.nextInt(6);
        if (how == 0) {
            pair.call("pass");
        } else if (how < 4) {
            String bits = how == 1 ? pair.model.encoded : madeUp(pair.model, random);
            StringBuilder text = new StringBuilder(bits);
            if (random.nextInt(3) == 0 && text.length() > 0) {
                int i = random.nextInt(text.length());
                text.setCharAt(i, text.charAt(i) == '0' ? '1' : '0');
            }
            if (random.nextInt(4) == 0) {
                text.setLength(random.nextInt(text.length() + 1));
            }
            while (text.length() % 8 != 0) {
                text.append(random.nextInt(60) == 0 ? '1' : '0');
            }
            int most = 8 * Math.max(0, MOST_CHANGES - pair.changes.size());
            for (int i = 0; i + 8 <= text.length() && i < most; i += 8) {
                pair.call("feed", Integer.parseInt(text.substring(i, i + 8), 2));
            }
        }
        if (how == 4) {
            fill(pair, random);
        }
        if (random.nextInt(6) == 0) {
            pair.call("feed", random.nextInt(3) - 1);
        }
        pair.call("told", 3);
        long answer = pair.call("read");
        if (answer >= 0) {
            read++;
        } else if (answer >= -5) {
            refusals[(int) (-1 - answer)]++;
        }
        pair.call("told", 1);
        everything(pair, random, 60);
    }

    /** Up to what may be to be read, and a little beyond, where few enough calls do. */
    private static void fill(Pair pair, Random random) {
        int bytes = pair.model.encoded.length() / 8;
        if (bytes < 40 || pair.changes.size() > MOST_CHANGES - 150) {
            return;
        }
        while (pair.call("pass") >= 0) {
            pair.call("told", 3);
        }
        int room = 2000 - pair.model.waiting.length() / 8;
        for (int i = 0; i < Math.min(room + 2, 80); i++) {
            pair.call("feed", random.nextInt(256));
        }
        if (room < 79) {
            filled++;
        }
        pair.call("feed", 256);
        pair.call("pass");
    }

    private static String madeUp(Model model, Random random) {
        StringBuilder text = new StringBuilder();
        int number = 1 + random.nextInt(31 - Integer.numberOfLeadingZeros(model.side / 2));
        text.append(Model.binary(number, 3));
        for (int k = 0; k < 4; k++) {
            madeUpSquare(model, random, text, model.side / 2, 1 << number);
        }
        return text.toString();
    }

    private static void madeUpSquare(Model model, Random random, StringBuilder text, int size, int least) {
        boolean split = size > least && random.nextInt(3) == 0;
        if (size > least) {
            text.append(split ? '1' : '0');
        }
        if (split) {
            for (int k = 0; k < 4; k++) {
                madeUpSquare(model, random, text, size / 2, least);
            }
            return;
        }
        text.append(Model.binary(random.nextInt(model.domains(size)), model.domainBits(size)));
        text.append(Model.binary(random.nextInt(8), 3)).append(Model.binary(random.nextInt(15), 4));
        text.append(Model.binary(random.nextInt(1024), 10));
    }

    private static void everything(Pair pair, Random random, int most) {
        pair.call("tried");
        for (int what = 0; what < 5; what++) {
            pair.call("told", what);
        }
        pair.compareBlocks(random, most);
        pair.compareBytes(random, most);
    }

    private static int least(Random random, int side) {
        if (random.nextInt(12) == 0) {
            return odd(random);
        }
        int sizes = 31 - Integer.numberOfLeadingZeros(side / 2);
        return 2 << random.nextInt(random.nextInt(8) == 0 ? sizes + 1 : sizes);
    }

    private static int bound(Random random) {
        int[] bounds = {0, 0, 1, 10, 100, 1000, 5000, 20000, 100000, 1000000, Integer.MAX_VALUE, -1};
        return bounds[random.nextInt(bounds.length)];
    }

    private static int near(Random random, int least, int most) {
        int odd = random.nextInt(40);
        return odd == 0 ? least - 1 : odd == 1 ? most + 1 : odd == 2 ? odd(random)
            : least + random.nextInt(most - least + 1);
    }

    private static int wide(Random random) {
        return random.nextInt(6) == 0 ? odd(random) : random.nextInt(600) - 200;
    }

    private static int odd(Random random) {
        int[] odds = {Integer.MIN_VALUE, Integer.MAX_VALUE, -1, 0, 1, 3, 5, 32, 64, 256, 1 << 16, -1 << 16};
        int which = random.nextInt(odds.length + 1);
        return which == odds.length ? random.nextInt() : odds[which];
    }

    /** The class and the model, side by side. */
    private static final class Pair {
        final int seed;
        final int number;
        final Model model;
        final List<Object[]> changes = new ArrayList<>();
        FractalMaps maps;
        int used = 0;

        Pair(int seed, int number) {
            this.seed = seed;
            this.number = number;
            maps = new FractalMaps(number);
            model = new Model(number);
        }

        long call(String name, int... a) {
            if (used == MOST_CALLS) {
                renew();
            }
            used++;
            calls++;
            String got = answer(false, name, a);
            String want = answer(true, name, a);
            if (!got.equals(want)) {
                wrong++;
                System.out.println("run " + seed + ", call " + used + ": " + name + java.util.Arrays.toString(a)
                    + " answered " + got + ", due is " + want);
            }
            boolean thrown = want.startsWith("throws");
            if (!thrown && CHANGING.contains(name)) {
                changes.add(new Object[] {name, a});
            }
            return thrown ? Long.MIN_VALUE : Long.parseLong(want);
        }

        private void renew() {
            maps = new FractalMaps(number);
            for (Object[] change : changes) {
                answer(false, (String) change[0], (int[]) change[1]);
            }
            used = changes.size();
        }

        private String answer(boolean ofModel, String name, int[] a) {
            try {
                return Long.toString(ofModel ? ofModel(name, a) : ofMaps(name, a));
            } catch (RuntimeException e) {
                return "throws." + e.getClass().getSimpleName();
            }
        }

        private long ofMaps(String name, int[] a) {
            switch (name) {
                case "put": return maps.put(a[0], a[1], a[2]);
                case "paint": return maps.paint(a[0], a[1], a[2]);
                case "encode": return maps.encode(a[0], a[1]);
                case "block": return maps.block(a[0], a[1]);
                case "byteAt": return maps.byteAt(a[0]);
                case "feed": return maps.feed(a[0]);
                case "pass": return maps.pass();
                case "read": return maps.read();
                case "decode": return maps.decode(a[0], a[1]);
                case "at": return maps.at(a[0], a[1]);
                case "missed": return maps.missed();
                case "domain": return maps.domain(a[0], a[1], a[2], a[3], a[4]);
                case "kind": return maps.kind(a[0], a[1], a[2]);
                case "tried": return maps.tried();
                case "told": return maps.told(a[0]);
                default: maps.clear(); return 0;
            }
        }

        private long ofModel(String name, int[] a) {
            switch (name) {
                case "put": return model.put(a[0], a[1], a[2]);
                case "paint": return model.paint(a[0], a[1], a[2]);
                case "encode": return model.encode(a[0], a[1]);
                case "block": return model.block(a[0], a[1]);
                case "byteAt": return model.byteAt(a[0]);
                case "feed": return model.feed(a[0]);
                case "pass": return model.pass();
                case "read": return model.read();
                case "decode": return model.decode(a[0], a[1]);
                case "at": return model.at(a[0], a[1]);
                case "missed": return model.missed();
                case "domain": return model.domain(a[0], a[1], a[2], a[3], a[4]);
                case "kind": return model.kind(a[0], a[1], a[2]);
                case "tried": return model.tried;
                case "told": return model.told(a[0]);
                default: model.clear(); return 0;
            }
        }

        void compareBlocks(Random random, int most) {
            int facts = 8 * model.blocks.size();
            for (int i : some(random, facts, most)) {
                call("block", i / 8, i % 8);
            }
        }

        void compareBytes(Random random, int most) {
            for (int i : some(random, model.encoded.length() / 8 + 1, most)) {
                call("byteAt", i);
            }
        }

        void compareShown(Random random, int most) {
            int side = model.shown == null ? 0 : model.shown.length;
            for (int i : some(random, side * side, most)) {
                call("at", i % side, i / side);
            }
        }

        /** All numbers below the count, or as many of them as may be. */
        private static int[] some(Random random, int count, int most) {
            int[] numbers = new int[Math.min(count, most)];
            for (int i = 0; i < numbers.length; i++) {
                numbers[i] = count <= most ? i : random.nextInt(count);
            }
            return numbers;
        }
    }

    /** The document, as plainly as can be. */
    private static final class Model {
        final int side;
        int[][] picture;
        int[][] shown = null;
        List<int[]> blocks = new ArrayList<>();
        String encoded = "";
        String waiting = "";
        int tried = 0;

        Model(int number) {
            side = number <= 0 ? 4 : number == 1 ? 8 : number == 2 ? 16 : 32;
            picture = new int[side][side];
        }

        int put(int x, int y, int v) {
            need(inside(x, y, side), new IndexOutOfBoundsException());
            need(v >= 0 && v <= 255, new IllegalArgumentException());
            int before = picture[y][x];
            picture[y][x] = v;
            return before;
        }

        int paint(int v, int across, int down) {
            int others = 0;
            for (int y = 0; y < side; y++) {
                for (int x = 0; x < side; x++) {
                    long sum = v;
                    for (int i = 0; i < x; i++) {
                        sum += across;
                    }
                    for (int i = 0; i < y; i++) {
                        sum += down;
                    }
                    int sample = sum < 0 ? 0 : sum > 255 ? 255 : (int) sum;
                    others += sample == picture[y][x] ? 0 : 1;
                    picture[y][x] = sample;
                }
            }
            return others;
        }

        int encode(int least, int bound) {
            need(isSize(least) && least * 2 <= side && bound >= 0, new IllegalArgumentException());
            tried = 0;
            blocks = new ArrayList<>();
            StringBuilder bits = new StringBuilder();
            bits.append(least == 2 ? "001" : least == 4 ? "010" : least == 8 ? "011" : "100");
            int n = side / 2;
            square(bits, new int[] {0, 0, n, least, bound});
            square(bits, new int[] {n, 0, n, least, bound});
            square(bits, new int[] {0, n, n, least, bound});
            square(bits, new int[] {n, n, n, least, bound});
            while (bits.length() % 8 != 0) {
                bits.append('0');
            }
            encoded = bits.toString();
            return blocks.size();
        }

        private void square(StringBuilder bits, int[] s) {
            int n = s[2];
            int[] found = search(s[0], s[1], n);
            if (n > s[3]) {
                if (found[7] > s[4]) {
                    bits.append('1');
                    int m = n / 2;
                    square(bits, new int[] {s[0], s[1], m, s[3], s[4]});
                    square(bits, new int[] {s[0] + m, s[1], m, s[3], s[4]});
                    square(bits, new int[] {s[0], s[1] + m, m, s[3], s[4]});
                    square(bits, new int[] {s[0] + m, s[1] + m, m, s[3], s[4]});
                    return;
                }
                bits.append('0');
            }
            bits.append(binary(found[3], domainBits(n))).append(binary(found[4], 3));
            bits.append(binary(found[5] + 7, 4)).append(binary(found[6] + 256, 10));
            blocks.add(found);
        }

        private int[] search(int x, int y, int n) {
            int[][] r = part(picture, x, y, n);
            int[] quarters = quarters(r);
            int c = 0;
            for (int q = 1; q < 4; q++) {
                c = quarters[q] > quarters[c] ? q : c;
            }
            int[] best = null;
            for (int domain = 0; domain < domains(n); domain++) {
                int[][] shrunk = shrunk(picture, n, domain);
                for (int turn = 0; turn < 8; turn++) {
                    int[][] d = turned(shrunk, turn);
                    int[] sums = quarters(d);
                    if (sums[c] < sums[0] || sums[c] < sums[1] || sums[c] < sums[2] || sums[c] < sums[3]) {
                        continue;
                    }
                    tried++;
                    int[] one = fit(d, r);
                    if (best == null || one[2] < best[7]) {
                        best = new int[] {x, y, n, domain, turn, one[0], one[1], one[2]};
                    }
                }
            }
            return best;
        }

        private static int[] fit(int[][] d, int[][] r) {
            int n = d.length;
            long sd = 0, sr = 0, sdd = 0, sdr = 0;
            for (int i = 0; i < n * n; i++) {
                long a = d[i / n][i % n];
                long b = r[i / n][i % n];
                sd += a;
                sr += b;
                sdd += a * a;
                sdr += a * b;
            }
            long p = n * n * sdr - sd * sr;
            long q = n * n * sdd - sd * sd;
            int s = 0;
            if (q != 0) {
                // the nearest among those that it may be; a later one, of two, is the greater
                s = -7;
                for (int t = -6; t <= 7; t++) {
                    s = Math.abs(8 * p - t * q) <= Math.abs(8 * p - s * q) ? t : s;
                }
            }
            long rest = 0;
            for (int i = 0; i < n * n; i++) {
                rest += r[i / n][i % n] - eighths(s, d[i / n][i % n]);
            }
            int o = -512;
            while (Math.abs(rest - (o + 1L) * n * n) <= Math.abs(rest - (long) o * n * n)) {
                o++;
            }
            long error = 0;
            for (int i = 0; i < n * n; i++) {
                long e = r[i / n][i % n] - eighths(s, d[i / n][i % n]) - o;
                error += e * e;
            }
            return new int[] {s, o, (int) error};
        }

        private static int eighths(int s, int d) {
            return (int) Math.floor(s * d / 8.0);
        }

        int block(int k, int what) {
            need(k >= 0 && k < blocks.size(), new IndexOutOfBoundsException());
            need(what >= 0 && what <= 7, new IllegalArgumentException());
            return blocks.get(k)[what];
        }

        int byteAt(int i) {
            need(i >= 0 && i < encoded.length() / 8, new IndexOutOfBoundsException());
            return Integer.parseInt(encoded.substring(8 * i, 8 * i + 8), 2);
        }

        int feed(int b) {
            need(b >= 0 && b <= 255, new IllegalArgumentException());
            need(waiting.length() < 16000, new UnsupportedOperationException());
            waiting += binary(b, 8);
            return waiting.length() / 8;
        }

        int pass() {
            need(waiting.length() + encoded.length() <= 16000, new UnsupportedOperationException());
            waiting += encoded;
            return waiting.length() / 8;
        }

        int read() {
            String bits = waiting;
            waiting = "";
            Reading reading = new Reading(this, bits);
            try {
                reading.all();
            } catch (Refusal e) {
                return -1 - e.why;
            }
            blocks = reading.found;
            return blocks.size();
        }

        int decode(int rounds, int size) {
            need(rounds >= 1 && rounds <= 40 && (size == 0 || size == 1), new IllegalArgumentException());
            need(!blocks.isEmpty(), new IllegalStateException());
            int times = size == 1 ? 2 : 1;
            int[][] now = new int[side * times][side * times];
            for (int[] row : now) {
                java.util.Arrays.fill(row, 128);
            }
            int change = 0;
            for (int round = 0; round < rounds; round++) {
                int[][] next = new int[now.length][now.length];
                for (int[] b : blocks) {
                    int n = b[2] * times;
                    int[][] d = turned(shrunk(now, n, b[3]), b[4]);
                    for (int i = 0; i < n * n; i++) {
                        int v = eighths(b[5], d[i / n][i % n]) + b[6];
                        next[b[1] * times + i / n][b[0] * times + i % n] = v < 0 ? 0 : v > 255 ? 255 : v;
                    }
                }
                change = 0;
                for (int i = 0; i < now.length * now.length; i++) {
                    int x = i % now.length;
                    int y = i / now.length;
                    change = Math.max(change, Math.abs(now[y][x] - next[y][x]));
                }
                now = next;
            }
            shown = now;
            return change;
        }

        int at(int x, int y) {
            need(shown != null && inside(x, y, shown.length), new IndexOutOfBoundsException());
            return shown[y][x];
        }

        long missed() {
            need(shown != null && shown.length == side, new IllegalStateException());
            long sum = 0;
            for (int i = 0; i < side * side; i++) {
                long e = picture[i / side][i % side] - shown[i / side][i % side];
                sum += e * e;
            }
            return sum;
        }

        int domain(int size, int domain, int turn, int x, int y) {
            need(isSize(size) && 2 * size <= side && turn >= 0 && turn <= 7, new IllegalArgumentException());
            need(domain >= 0 && domain < domains(size) && inside(x, y, size), new IndexOutOfBoundsException());
            return turned(shrunk(picture, size, domain), turn)[y][x];
        }

        int kind(int x, int y, int size) {
            need(isSize(size), new IllegalArgumentException());
            boolean in = inside(x, y, side) && inside(x + size - 1, y + size - 1, side);
            need(in, new IndexOutOfBoundsException());
            int[] sums = quarters(part(picture, x, y, size));
            int most = Math.max(Math.max(sums[0], sums[1]), Math.max(sums[2], sums[3]));
            return sums[0] == most ? 0 : sums[1] == most ? 1 : sums[2] == most ? 2 : 3;
        }

        int told(int what) {
            int[] answers = {side, blocks.size(), encoded.length() / 8, waiting.length() / 8,
                shown == null ? 0 : shown.length};
            return what >= 0 && what < 5 ? answers[what] : -1;
        }

        void clear() {
            picture = new int[side][side];
            shown = null;
            blocks = new ArrayList<>();
            encoded = "";
            waiting = "";
            tried = 0;
        }

        int domains(int n) {
            int many = 0;
            for (int y = 0; y + 2 * n <= side; y += n) {
                for (int x = 0; x + 2 * n <= side; x += n) {
                    many++;
                }
            }
            return many;
        }

        int domainBits(int n) {
            return domains(n) == 1 ? 0 : Integer.toBinaryString(domains(n) - 1).length();
        }

        static int[][] shrunk(int[][] whole, int n, int domain) {
            int many = 0;
            for (int y = 0; y + 2 * n <= whole.length; y += n) {
                for (int x = 0; x + 2 * n <= whole.length; x += n) {
                    if (many == domain) {
                        return half(part(whole, x, y, 2 * n));
                    }
                    many++;
                }
            }
            throw new AssertionError();
        }

        private static int[][] half(int[][] whole) {
            int n = whole.length / 2;
            int[][] half = new int[n][n];
            for (int y = 0; y < n; y++) {
                for (int x = 0; x < n; x++) {
                    half[y][x] = (whole[2 * y][2 * x] + whole[2 * y][2 * x + 1] + whole[2 * y + 1][2 * x]
                        + whole[2 * y + 1][2 * x + 1] + 2) / 4;
                }
            }
            return half;
        }

        private static int[][] turned(int[][] square, int turn) {
            int n = square.length;
            int[][] now = square;
            if (turn >= 4) {
                now = new int[n][n];
                for (int i = 0; i < n * n; i++) {
                    now[i / n][n - 1 - i % n] = square[i / n][i % n];
                }
            }
            for (int t = 0; t < turn % 4; t++) {
                int[][] next = new int[n][n];
                for (int i = 0; i < n * n; i++) {
                    // a row from above becomes a column from the right
                    next[i % n][n - 1 - i / n] = now[i / n][i % n];
                }
                now = next;
            }
            return now;
        }

        private static int[] quarters(int[][] square) {
            int n = square.length;
            int[] sums = new int[4];
            for (int i = 0; i < n * n; i++) {
                sums[(i / n < n / 2 ? 0 : 2) + (i % n < n / 2 ? 0 : 1)] += square[i / n][i % n];
            }
            return sums;
        }

        private static int[][] part(int[][] whole, int x, int y, int n) {
            int[][] part = new int[n][n];
            for (int i = 0; i < n * n; i++) {
                part[i / n][i % n] = whole[y + i / n][x + i % n];
            }
            return part;
        }

        static boolean isSize(int size) {
            return size == 2 || size == 4 || size == 8 || size == 16;
        }

        private static boolean inside(int x, int y, int side) {
            return x >= 0 && x < side && y >= 0 && y < side;
        }

        static String binary(int v, int width) {
            StringBuilder text = new StringBuilder();
            for (int i = 0; i < width; i++) {
                text.insert(0, v >> i & 1);
            }
            return text.toString();
        }

        private static void need(boolean holds, RuntimeException otherwise) {
            if (!holds) {
                throw otherwise;
            }
        }
    }

    private static final class Refusal extends Exception {
        private static final long serialVersionUID = 1;
        final int why;

        Refusal(int why) {
            this.why = why;
        }
    }

    private static final class Reading {
        final Model model;
        final List<int[]> found = new ArrayList<>();
        String bits;

        Reading(Model model, String bits) {
            this.model = model;
            this.bits = bits;
        }

        void all() throws Refusal {
            int number = next(3);
            int least = number == 0 ? 0 : 1 << number;
            refuse(!Model.isSize(least) || 2 * least > model.side, 0);
            int n = model.side / 2;
            square(0, 0, n, least);
            square(n, 0, n, least);
            square(0, n, n, least);
            square(n, n, n, least);
            refuse(bits.length() >= 8 || bits.indexOf('1') >= 0, 4);
        }

        private void square(int x, int y, int n, int least) throws Refusal {
            if (n > least && next(1) == 1) {
                int m = n / 2;
                square(x, y, m, least);
                square(x + m, y, m, least);
                square(x, y + m, m, least);
                square(x + m, y + m, m, least);
                return;
            }
            int domain = next(model.domainBits(n));
            refuse(domain >= model.domains(n), 1);
            int turn = next(3);
            int contrast = next(4) - 7;
            refuse(contrast > 7, 2);
            int offset = next(10) - 256;
            found.add(new int[] {x, y, n, domain, turn, contrast, offset, -1});
        }

        private int next(int width) throws Refusal {
            refuse(bits.length() < width, 3);
            int v = width == 0 ? 0 : Integer.parseInt(bits.substring(0, width), 2);
            bits = bits.substring(width);
            return v;
        }

        private static void refuse(boolean so, int why) throws Refusal {
            if (so) {
                throw new Refusal(why);
            }
        }
    }
}
