import java.util.Random;

/** Long mixed runs of calls, each answer compared with that of PlainCourt. */
public final class RandomRunsTest {
    private static final int[] STRANGE = {Integer.MIN_VALUE, -1000001, -51, -50, -9, -2, -1, 0, 1, 2, 3, 4, 5, 7, 8, 9,
        19, 20, 23, 24, 25, 39, 40, 41, 50, 51, 60, 61, 63, 64, 65, 199, 200, 201, 1000000, Integer.MAX_VALUE};

    private final Random random;
    private final SunCourt court = new SunCourt();
    private final PlainCourt plain = new PlainCourt();
    private final int span;
    private final int reach;
    private final int strangeness;
    private final int blocks;
    private final int windows;
    private final int minutes;

    private RandomRunsTest(long seed) {
        random = new Random(seed);
        int[] spans = {6, 12, 30, 200};
        span = spans[random.nextInt(spans.length)];
        int[] reaches = {1, 3, 50};
        reach = reaches[random.nextInt(reaches.length)];
        int[] often = {10, 40, 1000};
        strangeness = often[random.nextInt(often.length)];
        blocks = 3 + random.nextInt(8);
        windows = 2 + random.nextInt(5);
        minutes = 3 + random.nextInt(15);
    }

    public static void main(String[] args) {
        int runs = args.length > 0 ? Integer.parseInt(args[0]) : 400;
        for (int seed = 0; seed < runs; seed++) {
            Due.about("seed " + seed);
            new RandomRunsTest(seed).run();
        }
        Due.end();
    }

    private void run() {
        for (int i = 0; i < 512; i++) {
            int call = random.nextInt(100);
            if (i < 60) {
                set(i);
            } else if (call < 25) {
                change(random.nextInt(11));
            } else {
                ask(random.nextInt(11));
            }
        }
    }

    /** Most runs get a scene first, so that what follows has something to ask about. */
    private void set(int i) {
        if (i < minutes) {
            addMinute();
        } else if (i < minutes + blocks) {
            addBlock();
        } else if (i < minutes + blocks + windows) {
            addWindow();
        } else {
            change(3 + random.nextInt(9));
        }
    }

    private int from(int least, int most) {
        if (random.nextInt(strangeness) == 0) {
            return STRANGE[random.nextInt(STRANGE.length)];
        }
        return least + random.nextInt(most - least + 1);
    }

    private int more(int than, int most) {
        if (than < 0 || than >= most || random.nextInt(strangeness) == 0) {
            return from(0, Math.max(1, most));
        }
        return than + 1 + random.nextInt(most - than);
    }

    private int day() {
        return from(0, random.nextInt(20) == 0 ? 7 : 1);
    }

    private int aBlock() {
        return from(0, Math.max(0, plain.count(1) - 1));
    }

    /** A BLOCK of a KIND, where one is found in a few tries. */
    private int aBlockOf(int kind) {
        for (int i = 0; i < 10; i++) {
            int block = aBlock();
            if (plainKind(block) == kind) {
                return block;
            }
        }
        return aBlock();
    }

    private int plainKind(int block) {
        return block >= 0 && block < plain.count(1) ? plain.blockOf(block, 0) : -1;
    }

    private int aWindow() {
        return from(0, Math.max(0, plain.count(2) - 1));
    }

    private void addMinute() {
        int d = day();
        int x = from(-reach, reach);
        int y = from(-reach, reach);
        int z = from(1, reach);
        Due.is("minute(" + d + "," + x + "," + y + "," + z + ")", court.minute(d, x, y, z), plain.minute(d, x, y, z));
    }

    private void addBlock() {
        int kind = from(0, 3);
        int x0 = from(0, span - 1);
        int x1 = more(x0, span);
        int y0 = from(0, span - 1);
        int y1 = more(y0, span);
        int foot = random.nextBoolean() ? 0 : from(0, span - 1);
        int top = more(foot, span);
        Due.is("block(" + kind + "," + x0 + "," + x1 + "," + y0 + "," + y1 + "," + foot + "," + top + ")",
            court.block(kind, x0, x1, y0, y1, foot, top), plain.block(kind, x0, x1, y0, y1, foot, top));
    }

    private void addWindow() {
        int side = from(0, 3);
        int at = side % 2 == 0 ? from(0, span / 2) : from(span / 2, span);
        int u0 = from(0, span - 1);
        int u1 = more(u0, Math.min(span, u0 < span ? u0 + 4 : span));
        int z0 = from(0, span / 3);
        int z1 = more(z0, Math.min(span, z0 < span ? z0 + 4 : span));
        Due.is("window(" + side + "," + at + "," + u0 + "," + u1 + "," + z0 + "," + z1 + ")",
            court.window(side, at, u0, u1, z0, z1), plain.window(side, at, u0, u1, z0, z1));
    }

    private void change(int which) {
        int b = aBlock();
        int tree = aBlockOf(1);
        int d = day();
        int v = from(0, span);
        int e = from(0, 8);
        switch (which) {
            case 0: addMinute(); break;
            case 1: if (random.nextInt(3) == 0) addBlock(); break;
            case 2: if (random.nextInt(3) == 0) addWindow(); break;
            case 3: Due.is("share(" + tree + "," + d + "," + e + ")", court.share(tree, d, e), plain.share(tree, d, e)); break;
            case 4: Due.is("most(" + tree + "," + v + ")", court.most(tree, v), plain.most(tree, v)); break;
            case 5: Due.is("cut(" + tree + "," + v + ")", court.cut(tree, v), plain.cut(tree, v)); break;
            case 6: if (random.nextInt(20) == 0) Due.is("build(" + b + ")", court.build(b), plain.build(b)); break;
            case 7: if (random.nextInt(20) == 0) Due.is("go(" + b + ")", court.go(b), plain.go(b)); break;
            case 8: Due.is("part(" + e + ")", court.part(e), plain.part(e)); break;
            case 9: changeLaw(d); break;
            default: passYears(); break;
        }
    }

    private void changeLaw(int d) {
        int least = from(0, 2);
        Due.is("law(" + d + "," + least + ")", court.law(d, least), plain.law(d, least));
    }

    private void passYears() {
        int n = from(1, 3);
        Due.is("years(" + n + ")", court.years(n), plain.years(n));
        if (random.nextInt(8) == 0) {
            int w = aWindow();
            Due.is("release(" + w + ")", court.release(w), plain.release(w));
        }
    }

    private void ask(int which) {
        int b = aBlock();
        int p = aBlockOf(3);
        int w = aWindow();
        int d = day();
        int m = from(0, Math.max(0, plain.minutesOf(d) - 1));
        int c = from(0, Math.max(0, plain.cellsOf(w) - 1));
        int v = from(1, span);
        int what = from(0, 6);
        switch (which) {
            case 0: Due.is("sun(" + w + "," + d + "," + m + ")", court.sun(w, d, m), plain.sun(w, d, m)); break;
            case 1: Due.is("light(" + w + "," + c + "," + d + "," + m + ")", court.light(w, c, d, m), plain.light(w, c, d, m)); break;
            case 2: Due.is("taker(" + w + "," + c + "," + d + "," + m + ")", court.taker(w, c, d, m), plain.taker(w, c, d, m)); break;
            case 3: Due.is("takes(" + w + "," + d + "," + b + ")", court.takes(w, d, b), plain.takes(w, d, b)); break;
            case 4: Due.is("hours(" + w + "," + d + ")", court.hours(w, d), plain.hours(w, d)); break;
            case 5: Due.is("loss(" + p + "," + w + "," + d + ")", court.loss(p, w, d), plain.loss(p, w, d)); break;
            case 6: if (random.nextInt(3) == 0) Due.is("high(" + p + ")", court.high(p), plain.high(p)); break;
            case 7: Due.is("breach(" + p + "," + v + ")", court.breach(p, v), plain.breach(p, v)); break;
            case 8: Due.is("blockOf(" + b + "," + what + ")", court.blockOf(b, what), plain.blockOf(b, what)); break;
            case 9: Due.is("windowOf(" + w + "," + what + ")", court.windowOf(w, what), plain.windowOf(w, what)); break;
            default:
                int counted = from(0, 17);
                Due.is("count(" + counted + ")", court.count(counted), plain.count(counted));
                break;
        }
    }
}
