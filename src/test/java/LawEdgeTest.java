/**
 * What the document's terms say of LAW, RIGHT, LOSS, HIGH and BREACH, a test for each sentence that
 * names an edge: the last that is still so and the first that is so no more.
 */
public final class LawEdgeTest {
    private LawEdgeTest() {
    }

    public static void main(String[] args) {
        least0To24();
        aNumberForEachDay();
        theSameForAllWindows();
        fallsIfFewer();
        fallsWithFullHours();
        lawfulIfItFallsOnNone();
        aYearOfRightMoreOthers0();
        treesGrowThenRight();
        goneTreesGrowToo();
        eachYearForItself();
        keptWith3OrMore();
        keptTillAYearPasses();
        rightUpTo60();
        releasedForGood();
        releaseOfNone();
        lossByItsOwnTop();
        lossIsHoursLessHours();
        highAtItsEdges();
        highByKeptWindows();
        highByLawfulWindows();
        highWithNoWindow();
        highByTheLowestOfSeveral();
        breachAtItsEdges();
        breachByTheFirstWindow();
        breachByTheFirstDay();
        breachOfTheLast();
        oneOfSeveralPlanned();
        toldTopsChangeNothing();
        Due.end();
    }

    /** A POINT at 0, 1/2, 1/2 that looks to greater x. */
    private static int smallWindow(SunCourt c) {
        return c.window(0, 0, 0, 1, 0, 1);
    }

    /** That POINT, with suns whose ways rise by 1, 1/2 and 1/50 on DAY 0. */
    private static SunCourt threeSuns() {
        SunCourt c = new SunCourt();
        c.minute(0, 1, 0, 1);
        c.minute(0, 2, 0, 1);
        c.minute(0, 50, 0, 1);
        smallWindow(c);
        return c;
    }

    private static void isLawful(String where, SunCourt c, int window, boolean lawful, int firstFall) {
        Due.is(where + ", lawful", c.windowOf(window, 3), lawful ? 1 : 0);
        Due.is(where + ", first fall", c.windowOf(window, 5), lawful ? -9 : firstFall);
    }

    private static void least0To24() {
        Due.about("LEAST (0 .. 24)");
        SunCourt c = new SunCourt();
        Due.is("-1", c.law(0, -1), -4);
        Due.is("25", c.law(0, 25), -6);
        Due.is("0 at first", c.law(0, 0), 0);
        for (int least = 1; least <= 24; least++) {
            Due.is("what it was", c.law(0, least), least - 1);
        }
        Due.is("-1", c.law(0, -1), -4);
        Due.is("25", c.law(0, 25), -6);
        Due.is("24 still", c.law(0, 24), 24);
    }

    private static void aNumberForEachDay() {
        Due.about("a number for each DAY, 0 at first");
        SunCourt c = new SunCourt();
        for (int day = 0; day < 8; day++) {
            Due.is("0 at first", c.law(day, 3 * day + 1), 0);
        }
        for (int day = 0; day < 8; day++) {
            Due.is("that of day " + day, c.law(day, 0), 3 * day + 1);
        }
        Due.is("day -1", c.law(-1, 1), -1);
        Due.is("day 8", c.law(8, 1), -1);
    }

    private static void theSameForAllWindows() {
        Due.about("the same for all WINDOWS");
        SunCourt c = threeSuns();
        c.law(0, 3);
        smallWindow(c);
        c.window(1, 0, 0, 1, 0, 1);
        Due.is("lawful", c.count(4), 2);
        isLawful("one before the law", c, 0, true, -9);
        isLawful("one after it", c, 1, true, -9);
        isLawful("one that looks away", c, 2, false, 0);
        c.law(0, 4);
        Due.is("lawful under 4", c.count(4), 0);
        c.law(0, 0);
        Due.is("lawful under 0", c.count(4), 3);
    }

    private static void fallsIfFewer() {
        Due.about("It FALLS on a DAY if its HOURS are fewer");
        SunCourt c = threeSuns();
        for (int least = 0; least <= 24; least++) {
            c.law(0, least);
            isLawful("3 hours under " + least, c, 0, least <= 3, 0);
        }
        c.law(0, 0);
        for (int least = 0; least <= 24; least++) {
            c.law(5, least);
            isLawful("no hours under " + least, c, 0, least == 0, 5);
        }
    }

    private static void fallsWithFullHours() {
        Due.about("It FALLS on a DAY if its HOURS are fewer, of 24");
        SunCourt c = new SunCourt();
        smallWindow(c);
        for (int minute = 0; minute < 23; minute++) {
            c.minute(7, 1, 0, 1);
        }
        c.law(7, 23);
        isLawful("23 under 23", c, 0, true, 7);
        c.law(7, 24);
        isLawful("23 under 24", c, 0, false, 7);
        c.minute(7, 1, 0, 1);
        isLawful("24 under 24", c, 0, true, 7);
    }

    private static void lawfulIfItFallsOnNone() {
        Due.about("It is LAWFUL if it falls on none");
        SunCourt c = new SunCourt();
        smallWindow(c);
        isLawful("no law", c, 0, true, -9);
        for (int day = 0; day < 8; day++) {
            c.law(day, 1);
        }
        for (int day = 0; day < 8; day++) {
            isLawful("falls from day " + day + " on", c, 0, false, day);
            c.minute(day, 1, 0, 1);
        }
        isLawful("falls on none", c, 0, true, -9);
        for (int day = 7; day >= 0; day--) {
            c.law(day, 2);
            isLawful("falls on day " + day, c, 0, false, day);
        }
    }

    private static void aYearOfRightMoreOthers0() {
        Due.about("each WINDOW that is LAWFUL then has one YEAR of RIGHT more, others 0");
        SunCourt c = threeSuns();
        c.window(1, 0, 0, 1, 0, 1);
        Due.is("right at first", c.windowOf(0, 2), 0);
        c.law(0, 1);
        c.years(1);
        Due.is("lawful", c.windowOf(0, 2), 1);
        Due.is("not lawful", c.windowOf(1, 2), 0);
        c.law(0, 0);
        c.years(1);
        Due.is("lawful again", c.windowOf(0, 2), 2);
        Due.is("lawful for once", c.windowOf(1, 2), 1);
        c.law(0, 1);
        c.years(1);
        Due.is("lawful still", c.windowOf(0, 2), 3);
        Due.is("0, not one less", c.windowOf(1, 2), 0);
        smallWindow(c);
        Due.is("right of a new one", c.windowOf(2, 2), 0);
        c.law(0, 24);
        c.years(1);
        Due.is("0 after 3", c.windowOf(0, 2), 0);
        Due.is("0 after 0", c.windowOf(2, 2), 0);
    }

    /** A TREE of TOP 5 leaves the first sun alone, which is 5 1/2 high there; one of 6 does not. */
    private static void treesGrowThenRight() {
        Due.about("TREES grow; then each WINDOW that is LAWFUL then");
        SunCourt c = new SunCourt();
        c.minute(0, 1, 0, 1);
        smallWindow(c);
        c.law(0, 1);
        c.block(1, 5, 6, 0, 1, 0, 4);
        c.years(1);
        Due.is("grown to 5", c.windowOf(0, 2), 1);
        isLawful("under 5", c, 0, true, -9);
        c.years(1);
        Due.is("grown to 6", c.windowOf(0, 2), 0);
        isLawful("under 6", c, 0, false, 0);
        c.cut(0, 5);
        isLawful("cut to 5", c, 0, true, -9);
        c.years(1);
        Due.is("grown to 6 again", c.windowOf(0, 2), 0);
        c.cut(0, 5);
        c.most(0, 5);
        c.years(1);
        Due.is("it may not grow", c.windowOf(0, 2), 1);
    }

    private static void goneTreesGrowToo() {
        Due.about("TREES grow (GONE ones, too)");
        SunCourt c = new SunCourt();
        c.minute(0, 1, 0, 1);
        smallWindow(c);
        c.law(0, 1);
        c.block(1, 5, 6, 0, 1, 0, 5);
        c.most(0, 7);
        c.go(0);
        int[] tops = {6, 7, 7};
        for (int year = 0; year < tops.length; year++) {
            c.years(1);
            Due.is("top after " + (year + 1), c.blockOf(0, 2), tops[year]);
            Due.is("it takes no right", c.windowOf(0, 2), year + 1);
        }
        Due.is("most of a gone one", c.most(0, 8), 7);
        c.years(1);
        Due.is("it grows on", c.blockOf(0, 2), 8);
        Due.is("it may not be cut", c.cut(0, 3), -3);
    }

    private static void eachYearForItself() {
        Due.about("n YEARS pass, each for itself");
        SunCourt c = new SunCourt();
        c.minute(0, 1, 0, 1);
        smallWindow(c);
        c.law(0, 1);
        // TOPS of 3, 4 and 5 leave its light, then one of 6 takes it.
        c.block(1, 5, 6, 0, 1, 0, 2);
        Due.is("three", c.years(3), 3);
        Due.is("right of three", c.windowOf(0, 2), 3);
        Due.is("kept", c.windowOf(0, 4), 1);
        Due.is("two more", c.years(2), 5);
        Due.is("right lost", c.windowOf(0, 2), 0);
        SunCourt d = new SunCourt();
        d.minute(0, 1, 0, 1);
        smallWindow(d);
        d.law(0, 1);
        d.block(1, 5, 6, 0, 1, 0, 2);
        Due.is("five at once", d.years(5), 5);
        Due.is("as one by one", d.windowOf(0, 2), 0);
        Due.is("top", d.blockOf(0, 2), 7);
    }

    private static void keptWith3OrMore() {
        Due.about("With 3 or more it is KEPT");
        SunCourt c = threeSuns();
        for (int years = 0; years <= 5; years++) {
            Due.is("right", c.windowOf(0, 2), years);
            Due.is("kept with " + years, c.windowOf(0, 4), years >= 3 ? 1 : 0);
            Due.is("kept ones with " + years, c.count(5), years >= 3 ? 1 : 0);
            c.years(1);
        }
        SunCourt d = threeSuns();
        d.years(3);
        Due.is("3 at once", d.windowOf(0, 4), 1);
    }

    private static void keptTillAYearPasses() {
        Due.about("KEPT by its YEARS of RIGHT, LAWFUL now or not");
        SunCourt c = threeSuns();
        c.years(3);
        c.law(0, 4);
        isLawful("now", c, 0, false, 0);
        Due.is("kept", c.windowOf(0, 4), 1);
        Due.is("kept ones", c.count(5), 1);
        Due.is("lawful ones", c.count(4), 0);
        c.years(1);
        Due.is("kept no more", c.windowOf(0, 4), 0);
        Due.is("no kept ones", c.count(5), 0);
        c.law(0, 3);
        c.years(2);
        Due.is("not with 2", c.windowOf(0, 4), 0);
        c.years(1);
        Due.is("with 3 again", c.windowOf(0, 4), 1);
    }

    private static void rightUpTo60() {
        Due.about("one YEAR of RIGHT more, of 60");
        SunCourt c = threeSuns();
        c.law(0, 3);
        c.years(60);
        Due.is("right", c.windowOf(0, 2), 60);
        Due.is("a year that is refused", c.years(1), -6);
        Due.is("right then", c.windowOf(0, 2), 60);
        Due.is("kept", c.windowOf(0, 4), 1);
    }

    private static void releasedForGood() {
        Due.about("if it is not RELEASED (for good)");
        SunCourt c = threeSuns();
        smallWindow(c);
        Due.is("before any right", c.release(1), true);
        c.years(3);
        Due.is("never kept", c.windowOf(1, 4), 0);
        Due.is("the other is", c.windowOf(0, 4), 1);
        Due.is("when kept", c.release(0), true);
        Due.is("kept no more", c.windowOf(0, 4), 0);
        Due.is("right stays", c.windowOf(0, 2), 3);
        Due.is("kept ones", c.count(5), 0);
        Due.is("again", c.release(0), false);
        c.law(0, 24);
        c.years(1);
        Due.is("right lost", c.windowOf(0, 2), 0);
        c.law(0, 0);
        c.years(56);
        Due.is("right anew", c.windowOf(0, 2), 56);
        Due.is("for good", c.windowOf(0, 4), 0);
        Due.is("and again", c.release(0), false);
        isLawful("released", c, 0, true, -9);
    }

    private static void releaseOfNone() {
        Due.about("false if it was, or there is none such");
        SunCourt c = threeSuns();
        Due.is("-1", c.release(-1), false);
        Due.is("1", c.release(1), false);
        smallWindow(c);
        Due.is("1 is there now", c.release(1), true);
        Due.is("1 again", c.release(1), false);
        Due.is("2", c.release(2), false);
        Due.is("0", c.release(0), true);
        Due.is("0 again", c.release(0), false);
    }

    /** Suns over x 10 are 10 1/2, 5 1/2 and 0.7 high. */
    private static void lossByItsOwnTop() {
        Due.about("With a PLANNED BLOCK of its own TOP there, if none is told");
        int[] tops = {5, 6, 10, 11, 200};
        int[] losses = {1, 2, 2, 3, 3};
        for (int i = 0; i < tops.length; i++) {
            SunCourt c = threeSuns();
            c.block(3, 10, 11, 0, 1, 0, tops[i]);
            Due.is("top " + tops[i], c.loss(0, 0, 0), losses[i]);
            c.breach(0, 200);
            c.high(0);
            Due.is("top " + tops[i] + " after others were told", c.loss(0, 0, 0), losses[i]);
        }
    }

    private static void lossIsHoursLessHours() {
        Due.about("LOSS of a WINDOW on a DAY: HOURS without it, less HOURS with it");
        SunCourt c = new SunCourt();
        smallWindow(c);
        c.window(1, 0, 0, 1, 0, 1);
        for (int minute = 0; minute < 24; minute++) {
            c.minute(7, 1, 0, 1);
        }
        c.block(3, 5, 6, 0, 1, 0, 200);
        c.block(3, 5, 6, 5, 6, 0, 200);
        Due.is("all of 24", c.loss(0, 0, 7), 24);
        Due.is("none on a day without minutes", c.loss(0, 0, 6), 0);
        Due.is("none of a window that looks away", c.loss(0, 1, 7), 0);
        Due.is("none by one beside the way", c.loss(1, 0, 7), 0);
        c.block(1, 8, 9, 0, 1, 0, 200);
        Due.is("none is left to lose", c.loss(0, 0, 7), 0);
        c.share(2, 7, 3);
        Due.is("too little light to lose an hour", c.loss(0, 0, 7), 0);
        c.share(2, 7, 4);
        Due.is("light enough", c.loss(0, 0, 7), 24);
    }

    /** A KEPT WINDOW whose one HOUR is taken from a TOP above z on, where the planned BLOCK begins. */
    private static SunCourt keptWindow(int z, int foot, int top) {
        SunCourt c = new SunCourt();
        c.minute(0, 1, 0, 1);
        // The way is 1/2 above z at x 5.
        c.window(0, 0, 0, 1, z - 5, z - 4);
        c.law(0, 1);
        c.years(3);
        c.block(3, 5, 6, 0, 1, foot, top);
        return c;
    }

    private static void highAtItsEdges() {
        Due.about("HIGH: the greatest TOP above its FOOT, 200 at most; its FOOT, if there is none");
        Due.is("up to z", keptWindow(50, 10, 20).high(0), 50);
        Due.is("its own top is above that", keptWindow(50, 10, 90).high(0), 50);
        Due.is("1 above its foot", keptWindow(50, 49, 50).high(0), 50);
        Due.is("its foot", keptWindow(50, 50, 51).high(0), 50);
        Due.is("its foot is 0", keptWindow(5, 0, 1).high(0), 5);
        Due.is("its foot is over the way", keptWindow(50, 52, 53).high(0), 200);
        Due.is("199", keptWindow(199, 10, 20).high(0), 199);
        Due.is("200", keptWindow(200, 10, 20).high(0), 200);
        Due.is("no more than 200", keptWindow(203, 10, 20).high(0), 200);
        Due.is("foot 199, top 200", keptWindow(200, 199, 200).high(0), 200);
        Due.is("foot 199, no top", keptWindow(199, 199, 200).high(0), 199);
        SunCourt c = new SunCourt();
        c.minute(0, 50, 0, 1);
        smallWindow(c);
        c.law(0, 1);
        c.years(3);
        c.block(3, 5, 6, 0, 1, 0, 1);
        Due.is("foot 0, no top", c.high(0), 0);
        for (int z = 5; z <= 200; z++) {
            Due.is("up to " + z, keptWindow(z, 0, 1).high(0), z);
        }
    }

    private static void highByKeptWindows() {
        Due.about("HIGH: each KEPT WINDOW");
        SunCourt c = new SunCourt();
        c.minute(0, 1, 0, 1);
        smallWindow(c);
        c.law(0, 1);
        c.block(3, 5, 6, 0, 1, 0, 1);
        for (int years = 0; years <= 4; years++) {
            Due.is("right of " + years, c.high(0), years >= 3 ? 5 : 200);
            Due.is("breach with right of " + years, c.breach(0, 6), years >= 3 ? 0 : -9);
            c.years(1);
        }
        c.release(0);
        Due.is("released", c.high(0), 200);
        Due.is("breach, released", c.breach(0, 6), -9);
    }

    private static void highByLawfulWindows() {
        Due.about("HIGH: that is LAWFUL without it");
        SunCourt c = keptWindow(50, 0, 1);
        Due.is("lawful", c.high(0), 50);
        c.law(0, 2);
        Due.is("kept, but not lawful", c.high(0), 200);
        Due.is("breach, not lawful", c.breach(0, 200), -9);
        c.law(0, 1);
        c.law(7, 1);
        Due.is("falls on another day", c.high(0), 200);
        Due.is("breach, falls on another day", c.breach(0, 200), -9);
        c.law(7, 0);
        Due.is("lawful again", c.high(0), 50);
        c.law(0, 0);
        Due.is("no law", c.high(0), 200);
        Due.is("breach, no law", c.breach(0, 200), -9);
        c.law(0, 1);
        c.minute(0, -1, 0, 1);
        c.minute(0, 1, 1, 1);
        Due.is("an hour that it may lose", c.high(0), 200);
        c.law(0, 2);
        Due.is("an hour that it may not lose", c.high(0), 50);
    }

    private static void highWithNoWindow() {
        Due.about("HIGH and BREACH without WINDOWS");
        SunCourt c = new SunCourt();
        c.block(3, 5, 6, 0, 1, 199, 200);
        c.law(0, 1);
        Due.is("high", c.high(0), 200);
        Due.is("breach", c.breach(0, 200), -9);
    }

    private static void highByTheLowestOfSeveral() {
        Due.about("HIGH: each of several WINDOWS");
        SunCourt c = new SunCourt();
        c.minute(0, 1, 0, 1);
        int[] heights = {90, 30, 60};
        for (int z : heights) {
            c.window(0, 0, 0, 1, z - 5, z - 4);
        }
        c.law(0, 1);
        c.years(3);
        c.block(3, 5, 6, 0, 1, 0, 1);
        Due.is("the lowest", c.high(0), 30);
        Due.is("breach above the lowest", c.breach(0, 31), 8);
        Due.is("breach above the next", c.breach(0, 61), 8);
        Due.is("breach above all", c.breach(0, 91), 0);
        c.release(1);
        Due.is("the next", c.high(0), 60);
        Due.is("breach then", c.breach(0, 61), 16);
        c.release(2);
        Due.is("the last", c.high(0), 90);
        c.release(0);
        Due.is("none", c.high(0), 200);
    }

    private static void breachAtItsEdges() {
        Due.about("BREACH of a PLANNED BLOCK with a TOP; -9 if there is none");
        SunCourt c = keptWindow(50, 10, 20);
        Due.is("its foot", c.breach(0, 10), 1000004);
        Due.is("above its foot", c.breach(0, 11), -9);
        Due.is("as high as may be", c.breach(0, 50), -9);
        Due.is("1 higher", c.breach(0, 51), 0);
        Due.is("200", c.breach(0, 200), 0);
        Due.is("201", c.breach(0, 201), 1000006);
        Due.is("as high says", c.breach(0, c.high(0)), -9);
        Due.is("1 higher than high says", c.breach(0, c.high(0) + 1), 0);
    }

    private static void breachByTheFirstWindow() {
        Due.about("BREACH: the first WINDOW, by numbers, that is KEPT, LAWFUL without it and falls with it");
        SunCourt c = new SunCourt();
        c.minute(0, 1, 0, 1);
        c.window(0, 0, 0, 1, 100, 101);
        c.window(1, 200, 0, 1, 0, 1);
        smallWindow(c);
        smallWindow(c);
        smallWindow(c);
        c.law(0, 1);
        c.years(3);
        smallWindow(c);
        c.block(3, 5, 6, 0, 1, 0, 1);
        Due.is("the third", c.breach(0, 6), 8 * 2);
        Due.is("the first is reached", c.breach(0, 106), 0);
        Due.is("not yet", c.breach(0, 105), 8 * 2);
        c.release(2);
        Due.is("the fourth", c.breach(0, 6), 8 * 3);
        c.release(3);
        Due.is("the fifth", c.breach(0, 6), 8 * 4);
        c.release(4);
        Due.is("the last is not kept", c.breach(0, 6), -9);
    }

    private static void breachByTheFirstDay() {
        Due.about("BREACH: and the first DAY on which it does");
        SunCourt c = new SunCourt();
        smallWindow(c);
        for (int day = 0; day < 8; day++) {
            c.minute(day, 1, 0, day + 1);
            c.law(day, 1);
        }
        c.years(3);
        c.block(3, 10, 11, 0, 1, 0, 1);
        // On DAY d the way is 10 d + 10 1/2 high at x 10.
        Due.is("below all", c.breach(0, 10), -9);
        for (int top = 11; top <= 200; top += 27) {
            Due.is("from day 0 on", c.breach(0, top), 0);
        }
        for (int day = 0; day < 8; day++) {
            Due.is("below day " + day, c.breach(0, 10 * day + 10), -9);
            Due.is("day " + day, c.breach(0, 10 * day + 11), day);
            c.law(day, 0);
        }
        Due.is("no day has a law", c.breach(0, 200), -9);
    }

    private static void breachOfTheLast() {
        Due.about("8 times the WINDOW and the DAY, of the last");
        SunCourt c = new SunCourt();
        c.minute(7, 1, 0, 1);
        for (int window = 0; window < 19; window++) {
            c.window(0, 0, 50, 51, 0, 1);
        }
        smallWindow(c);
        c.law(7, 1);
        c.years(3);
        c.block(3, 5, 6, 0, 1, 0, 6);
        Due.is("window 19, day 7", c.breach(0, 6), 8 * 19 + 7);
        Due.is("its loss", c.loss(0, 19, 7), 1);
        Due.is("high", c.high(0), 5);
    }

    private static void oneOfSeveralPlanned() {
        Due.about("With a PLANNED BLOCK there, and no other");
        SunCourt c = keptWindow(50, 0, 1);
        c.block(3, 2, 3, 0, 1, 0, 200);
        Due.is("high of the first", c.high(0), 50);
        Due.is("breach of the first", c.breach(0, 50), -9);
        Due.is("loss by the first", c.loss(0, 0, 0), 0);
        Due.is("loss by the second", c.loss(1, 0, 0), 1);
        Due.is("high of the second", c.high(1), 47);
        c.build(1);
        Due.is("loss by the first, none is left", c.loss(0, 0, 0), 0);
        Due.is("high of the first, not lawful without it", c.high(0), 200);
    }

    private static void toldTopsChangeNothing() {
        Due.about("With a PLANNED BLOCK of some TOP there, and not there after that");
        SunCourt c = keptWindow(50, 10, 20);
        c.breach(0, 200);
        c.high(0);
        c.loss(0, 0, 0);
        Due.is("top", c.blockOf(0, 2), 20);
        Due.is("foot", c.blockOf(0, 1), 10);
        Due.is("there", c.blockOf(0, 4), 0);
        Due.is("hours", c.hours(0, 0), 1);
        Due.is("taker", c.taker(0, 0, 0, 0), -9);
        Due.is("right", c.windowOf(0, 2), 3);
        c.build(0);
        Due.is("built with its own top", c.blockOf(0, 2), 20);
        Due.is("hours under it", c.hours(0, 0), 1);
    }
}
