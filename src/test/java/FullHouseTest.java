import java.util.Random;

/** A court with all its room taken: every limit reached at once, the answers those of PlainCourt. */
public final class FullHouseTest {
    private final Random random = new Random(7);
    private final SunCourt court = new SunCourt();
    private final PlainCourt plain = new PlainCourt();

    private FullHouseTest() {
    }

    public static void main(String[] args) {
        Due.about("full house");
        full().askHours();
        full().askTakes();
        full().askLight();
        full().passYears();
        full().askPlanned();
        full().goAll();
        Due.end();
    }

    /** Each question has a court of its own, so that none is called more than 512 times. */
    private static FullHouseTest full() {
        FullHouseTest test = new FullHouseTest();
        test.fill();
        return test;
    }

    private void fill() {
        for (int day = 0; day < 8; day++) {
            for (int minute = 0; minute < 24; minute++) {
                int x = random.nextInt(21) - 10;
                int y = random.nextInt(21) - 10;
                int z = 1 + random.nextInt(10);
                Due.is("minute", court.minute(day, x, y, z), plain.minute(day, x, y, z));
            }
        }
        for (int block = 0; block < 40; block++) {
            addBlock(block < 36 ? random.nextInt(3) : 3);
        }
        for (int window = 0; window < 20; window++) {
            addWindow(window % 4, window == 19 ? 8 : 1 + window % 2);
        }
    }

    private void addBlock(int kind) {
        int x0 = random.nextInt(35);
        int x1 = x0 + 1 + random.nextInt(5);
        int y0 = random.nextInt(35);
        int y1 = y0 + 1 + random.nextInt(5);
        int foot = kind == 3 ? 1 : random.nextInt(10);
        int top = foot + 1 + random.nextInt(10);
        Due.is("block", court.block(kind, x0, x1, y0, y1, foot, top), plain.block(kind, x0, x1, y0, y1, foot, top));
        if (kind == 1) {
            int block = plain.count(1) - 1;
            for (int day = 0; day < 8; day += 3) {
                int eighths = random.nextInt(9);
                Due.is("share", court.share(block, day, eighths), plain.share(block, day, eighths));
            }
        }
    }

    private void addWindow(int side, int size) {
        int at = 15 + random.nextInt(10);
        int u = 15 + random.nextInt(10);
        int z = random.nextInt(4);
        Due.is("window", court.window(side, at, u, u + size, z, z + size),
            plain.window(side, at, u, u + size, z, z + size));
    }

    private void askHours() {
        for (int window = 0; window < 20; window++) {
            for (int day = 0; day < 8; day++) {
                Due.is("hours(" + window + "," + day + ")", court.hours(window, day), plain.hours(window, day));
            }
        }
    }

    private void askTakes() {
        for (int window = 0; window < 20; window++) {
            for (int day = 0; day < 8; day++) {
                int block = random.nextInt(40);
                Due.is("takes(" + window + "," + day + "," + block + ")",
                    court.takes(window, day, block), plain.takes(window, day, block));
            }
        }
    }

    private void askLight() {
        for (int minute = 0; minute < 24; minute++) {
            Due.is("sun(19,7," + minute + ")", court.sun(19, 7, minute), plain.sun(19, 7, minute));
            Due.is("light(19,63,7," + minute + ")", court.light(19, 63, 7, minute), plain.light(19, 63, 7, minute));
            Due.is("taker(19,63,7," + minute + ")", court.taker(19, 63, 7, minute), plain.taker(19, 63, 7, minute));
        }
    }

    /** Four years under a LAW on every DAY, after which some WINDOWS are KEPT and some are not. */
    private void passLawfulYears() {
        for (int day = 0; day < 8; day++) {
            Due.is("law", court.law(day, 2), plain.law(day, 2));
        }
        Due.is("years(4)", court.years(4), plain.years(4));
    }

    private void passYears() {
        passLawfulYears();
        for (int window = 0; window < 20; window++) {
            for (int what = 0; what < 6; what++) {
                Due.is("windowOf(" + window + "," + what + ")",
                    court.windowOf(window, what), plain.windowOf(window, what));
            }
        }
        for (int what = 0; what < 17; what++) {
            Due.is("count(" + what + ")", court.count(what), plain.count(what));
        }
        Due.holds("some window is kept", court.count(5) > 0);
    }

    private void askPlanned() {
        passLawfulYears();
        for (int block = 36; block < 40; block++) {
            for (int top = 0; top <= 210; top += 30) {
                Due.is("breach(" + block + "," + top + ")", court.breach(block, top), plain.breach(block, top));
            }
            for (int window = 0; window < 20; window++) {
                Due.is("loss(" + block + "," + window + ",7)", court.loss(block, window, 7), plain.loss(block, window, 7));
            }
        }
        Due.is("high(39)", court.high(39), plain.high(39));
    }

    private void goAll() {
        passLawfulYears();
        for (int block = 0; block < 40; block++) {
            Due.is("go(" + block + ")", court.go(block), plain.go(block));
        }
        Due.is("years(57)", court.years(57), plain.years(57));
        Due.is("years(56)", court.years(56), plain.years(56));
        Due.is("count(5)", court.count(5), plain.count(5));
        Due.is("high(39)", court.high(39), plain.high(39));
    }
}
