/**
 * What the document's terms say of DAYS, MINUTES, BLOCKS, WINDOWS and YEARS, a test for each
 * sentence that names an edge: the last that is still so and the first that is so no more.
 */
public final class ThingEdgeTest {
    private ThingEdgeTest() {
    }

    public static void main(String[] args) {
        placesFrom0To200();
        lightAtTheEdgesOfAllPlaces();
        at512Calls();
        days0To7();
        upTo24MinutesEach();
        minutesNumberedAsTheyCame();
        waysUpTo50();
        yearIs0AtFirst60AtMost();
        blocks40AtMost();
        goneBlocksKeepTheirRoom();
        lesserFirstNotEmpty();
        blockLetsNothingThrough();
        share0To8And0AtFirst();
        shareOfEachDay();
        topGrowsUpToMost();
        topGrowsWithEachYear();
        mostOfATreeIs200();
        mostIsNotBelowTop();
        cutBetweenFootAndTop();
        glassLetsAllThrough();
        plannedIsNotThere();
        builtIsThereFromThenOn();
        goneIsThereNoMore();
        windows20AtMost();
        sides0To3();
        atMost64Cells();
        cellsByZThenU();
        pointIsTheMiddle();
        blockOfWhats();
        windowOfWhats();
        countOfAll();
        Due.end();
    }

    /** A POINT at 0, 1/2, 1/2 that looks to greater x. */
    private static int smallWindow(SunCourt c) {
        return c.window(0, 0, 0, 1, 0, 1);
    }

    /** That POINT, with the SUN's way 1, 0, 1. */
    private static SunCourt smallCourt() {
        SunCourt c = new SunCourt();
        c.minute(0, 1, 0, 1);
        smallWindow(c);
        return c;
    }

    /** A BLOCK that stands before that POINT. */
    private static int blockBefore(SunCourt c, int kind) {
        return c.block(kind, 5, 6, 0, 1, 0, 200);
    }

    private static void placesFrom0To200() {
        Due.about("x, y, z from 0 to 200");
        SunCourt c = new SunCourt();
        Due.is("all places", c.block(0, 0, 200, 0, 200, 0, 200), 0);
        Due.is("the first places", c.block(0, 0, 1, 0, 1, 0, 1), 1);
        Due.is("the last places", c.block(0, 199, 200, 199, 200, 199, 200), 2);
        Due.is("foot 0", c.blockOf(1, 1), 0);
        Due.is("top 200", c.blockOf(2, 2), 200);
        Due.is("x0 -1", c.block(0, -1, 1, 0, 1, 0, 1), -4);
        Due.is("y0 -1", c.block(0, 0, 1, -1, 1, 0, 1), -4);
        Due.is("foot -1", c.block(0, 0, 1, 0, 1, -1, 1), -4);
        Due.is("x1 201", c.block(0, 199, 201, 0, 1, 0, 1), -6);
        Due.is("y1 201", c.block(0, 0, 1, 199, 201, 0, 1), -6);
        Due.is("top 201", c.block(0, 0, 1, 0, 1, 199, 201), -6);
        for (int side = 0; side < 4; side++) {
            Due.is("wall 0", c.window(side, 0, 0, 1, 0, 1), 2 * side);
            Due.is("wall 200", c.window(side, 200, 199, 200, 199, 200), 2 * side + 1);
            Due.is("wall -1", c.window(side, -1, 0, 1, 0, 1), -4);
            Due.is("u0 -1", c.window(side, 0, -1, 1, 0, 1), -4);
            Due.is("z0 -1", c.window(side, 0, 0, 1, -1, 1), -4);
            Due.is("wall 201", c.window(side, 201, 0, 1, 0, 1), -6);
            Due.is("u1 201", c.window(side, 0, 199, 201, 0, 1), -6);
            Due.is("z1 201", c.window(side, 0, 0, 1, 199, 201), -6);
        }
    }

    /** From wall to wall: 50 to the side for 1 up, so z is 4 1/2 less 1/50 where the last unit begins. */
    private static void lightAtTheEdgesOfAllPlaces() {
        Due.about("x, y, z from 0 to 200, light from end to end");
        int[][] ways = {{50, 0}, {-50, 0}, {0, 50}, {0, -50}};
        int[][] ends = {{199, 200, 0, 1}, {0, 1, 0, 1}, {0, 1, 199, 200}, {0, 1, 0, 1}};
        for (int side = 0; side < 4; side++) {
            SunCourt c = new SunCourt();
            c.minute(0, ways[side][0], ways[side][1], 1);
            c.window(side, side % 2 == 0 ? 0 : 200, 0, 1, 0, 1);
            int[] end = ends[side];
            c.block(0, end[0], end[1], end[2], end[3], 0, 4);
            Due.is("over a top of 4, side " + side, c.light(0, 0, 0, 0), 4096);
            c.block(0, end[0], end[1], end[2], end[3], 5, 200);
            Due.is("under a foot of 5, side " + side, c.light(0, 0, 0, 0), 4096);
            c.block(0, end[0], end[1], end[2], end[3], 4, 5);
            Due.is("between 4 and 5, side " + side, c.light(0, 0, 0, 0), 0);
            Due.is("taker, side " + side, c.taker(0, 0, 0, 0), 2);
        }
    }

    private static void at512Calls() {
        Due.about("at most 512 calls");
        SunCourt refused = new SunCourt();
        for (int i = 0; i < 511; i++) {
            Due.is("refused call " + i, refused.years(0), -4);
        }
        Due.is("the 512th call", refused.count(14), 511);
        SunCourt changed = smallCourt();
        for (int i = 2; i < 511; i++) {
            changed.part(1 + i % 8);
        }
        Due.is("the 512th call", changed.hours(0, 0), 1);
    }

    private static void days0To7() {
        Due.about("DAYS 0 .. 7");
        SunCourt c = smallCourt();
        c.block(1, 100, 101, 100, 101, 0, 1);
        c.block(3, 100, 101, 100, 101, 0, 1);
        for (int day = 0; day < 8; day++) {
            Due.is("minute of day " + day, c.minute(day, 1, 0, 1), day == 0 ? 1 : 0);
            Due.is("law of day " + day, c.law(day, 1), 0);
            Due.is("share of day " + day, c.share(0, day, 1), 0);
            Due.is("hours of day " + day, c.hours(0, day), day == 0 ? 2 : 1);
            Due.is("sun of day " + day, c.sun(0, day, 0), 4096);
            Due.is("light of day " + day, c.light(0, 0, day, 0), 4096);
            Due.is("taker of day " + day, c.taker(0, 0, day, 0), -9);
            Due.is("takes of day " + day, c.takes(0, day, 0), 0);
            Due.is("loss of day " + day, c.loss(1, 0, day), 0);
        }
        for (int day : new int[] {-1, 8}) {
            Due.is("minute of day " + day, c.minute(day, 1, 0, 1), -1);
            Due.is("law of day " + day, c.law(day, 1), -1);
            Due.is("share of day " + day, c.share(0, day, 1), -1);
            Due.is("hours of day " + day, c.hours(0, day), -1);
            Due.is("sun of day " + day, c.sun(0, day, 0), -1);
            Due.is("light of day " + day, c.light(0, 0, day, 0), -1);
            Due.is("taker of day " + day, c.taker(0, 0, day, 0), 1000001);
            Due.is("takes of day " + day, c.takes(0, day, 0), -1);
            Due.is("loss of day " + day, c.loss(1, 0, day), 1000001);
        }
    }

    private static void upTo24MinutesEach() {
        Due.about("MINUTES, up to 24 each");
        SunCourt c = new SunCourt();
        smallWindow(c);
        for (int day = 0; day < 8; day++) {
            for (int minute = 0; minute < 24; minute++) {
                Due.is("minute " + minute + " of day " + day, c.minute(day, 1, 0, 1), minute);
            }
            Due.is("a 25th of day " + day, c.minute(day, 1, 0, 1), -6);
        }
        Due.is("of all days", c.count(3), 8 * 24);
        for (int day = 0; day < 8; day++) {
            Due.is("hours of day " + day, c.hours(0, day), 24);
            Due.is("the last minute of day " + day, c.sun(0, day, 23), 4096);
            Due.is("none after it on day " + day, c.sun(0, day, 24), -1);
        }
    }

    private static void minutesNumberedAsTheyCame() {
        Due.about("numbered as they came, each with the SUN's way");
        SunCourt c = new SunCourt();
        int[] sides = {3, 0, 2, 1};
        int[][] ways = {{1, 0}, {-1, 0}, {0, 1}, {0, -1}};
        for (int minute = 0; minute < 4; minute++) {
            int[] way = ways[sides[minute]];
            Due.is("on day 4", c.minute(4, way[0], way[1], 1), minute);
            Due.is("on day 5", c.minute(5, -way[0], -way[1], 1), minute);
        }
        for (int side = 0; side < 4; side++) {
            c.window(side, 100, 100, 101, 0, 1);
            for (int minute = 0; minute < 4; minute++) {
                boolean inFront = sides[minute] == side;
                boolean behind = sides[minute] == (side ^ 1);
                Due.is("day 4, side " + side + ", " + minute, c.sun(side, 4, minute), inFront ? 4096 : 0);
                Due.is("day 5, side " + side + ", " + minute, c.sun(side, 5, minute), behind ? 4096 : 0);
            }
        }
    }

    private static void waysUpTo50() {
        Due.about("x and y -50 .. 50, z 1 .. 50");
        SunCourt c = new SunCourt();
        Due.is("the least", c.minute(0, -50, -50, 1), 0);
        Due.is("the greatest", c.minute(0, 50, 50, 50), 1);
        Due.is("x -51", c.minute(0, -51, -50, 1), -4);
        Due.is("y -51", c.minute(0, -50, -51, 1), -4);
        Due.is("z 0", c.minute(0, -50, -50, 0), -4);
        Due.is("x 51", c.minute(0, 51, 50, 50), -6);
        Due.is("y 51", c.minute(0, 50, 51, 50), -6);
        Due.is("z 51", c.minute(0, 50, 50, 51), -6);
        Due.is("straight up", c.minute(0, 0, 0, 1), 2);
        // 50 up for 1 to the side: z is 199 at x 3.97 and 200 before x 4.
        Due.is("steep", c.minute(1, 1, 0, 50), 0);
        smallWindow(c);
        c.block(0, 4, 5, 0, 1, 0, 200);
        Due.is("over the next unit", c.light(0, 0, 1, 0), 4096);
        c.block(0, 3, 4, 0, 1, 199, 200);
        Due.is("through the last unit", c.light(0, 0, 1, 0), 0);
    }

    private static void yearIs0AtFirst60AtMost() {
        Due.about("The YEAR is 0 at first (60 at most)");
        SunCourt c = new SunCourt();
        Due.is("at first", c.count(0), 0);
        for (int year = 1; year <= 60; year++) {
            Due.is("year " + year, c.years(1), year);
        }
        Due.is("a 61st", c.years(1), -6);
        Due.is("at last", c.count(0), 60);
        SunCourt d = new SunCourt();
        Due.is("59", d.years(59), 59);
        Due.is("two more", d.years(2), -6);
        Due.is("refused, none of them passes", d.count(0), 59);
        Due.is("one more", d.years(1), 60);
        Due.is("60 at once", new SunCourt().years(60), 60);
        Due.is("61 at once", new SunCourt().years(61), -6);
    }

    private static void blocks40AtMost() {
        Due.about("BLOCKS have numbers from 0 on (40 at most)");
        for (int kind = 0; kind < 4; kind++) {
            SunCourt c = new SunCourt();
            for (int number = 0; number < 40; number++) {
                Due.is("block " + number, c.block(kind, number, number + 1, 0, 1, number, number + 2), number);
            }
            Due.is("a 41st", c.block(kind, 0, 1, 0, 1, 0, 1), -6);
            Due.is("count", c.count(1), 40);
            Due.is("the last", c.blockOf(39, 1), 39);
            Due.is("none after it", c.blockOf(40, 1), 1000001);
        }
        SunCourt c = smallCourt();
        for (int number = 0; number < 39; number++) {
            c.block(0, 100, 101, 100, 101, 0, 1);
        }
        Due.is("39 elsewhere", c.light(0, 0, 0, 0), 4096);
        Due.is("the 40th", blockBefore(c, 0), 39);
        Due.is("it stands before", c.light(0, 0, 0, 0), 0);
        Due.is("it takes", c.taker(0, 0, 0, 0), 39);
        Due.is("it takes once", c.takes(0, 0, 39), 1);
    }

    private static void goneBlocksKeepTheirRoom() {
        Due.about("40 at most, GONE ones too");
        SunCourt c = new SunCourt();
        for (int number = 0; number < 40; number++) {
            c.block(0, 0, 1, 0, 1, 0, 1);
            c.go(number);
        }
        Due.is("a 41st", c.block(0, 0, 1, 0, 1, 0, 1), -6);
        Due.is("count", c.count(1), 40);
    }

    private static void lesserFirstNotEmpty() {
        Due.about("each lesser first; not empty");
        SunCourt c = new SunCourt();
        Due.is("one unit", c.block(0, 7, 8, 7, 8, 7, 8), 0);
        Due.is("x empty", c.block(0, 7, 7, 7, 8, 7, 8), -4);
        Due.is("y empty", c.block(0, 7, 8, 7, 7, 7, 8), -4);
        Due.is("z empty", c.block(0, 7, 8, 7, 8, 7, 7), -4);
        Due.is("x lesser last", c.block(0, 8, 7, 7, 8, 7, 8), -4);
        Due.is("y lesser last", c.block(0, 7, 8, 8, 7, 7, 8), -4);
        Due.is("z lesser last", c.block(0, 7, 8, 7, 8, 8, 7), -4);
        Due.is("empty at 0", c.block(0, 0, 0, 0, 1, 0, 1), -4);
        Due.is("empty at 200", c.block(0, 0, 1, 200, 200, 0, 1), -4);
        Due.is("count", c.count(1), 1);
        Due.is("window of one cell", c.window(0, 7, 7, 8, 7, 8), 0);
        Due.is("window, u empty", c.window(0, 7, 7, 7, 7, 8), -4);
        Due.is("window, z empty", c.window(0, 7, 7, 8, 7, 7), -4);
        Due.is("window, u lesser last", c.window(0, 7, 8, 7, 7, 8), -4);
        Due.is("window, z lesser last", c.window(0, 7, 7, 8, 8, 7), -4);
        Due.is("windows", c.count(2), 1);
    }

    private static void blockLetsNothingThrough() {
        Due.about("0 BLOCK: it lets nothing through");
        SunCourt c = smallCourt();
        Due.is("before", c.light(0, 0, 0, 0), 4096);
        blockBefore(c, 0);
        Due.is("light", c.light(0, 0, 0, 0), 0);
        Due.is("there at once", c.blockOf(0, 4), 1);
        Due.is("no share can be told", c.share(0, 0, 8), -2);
        c.years(5);
        Due.is("it does not grow", c.blockOf(0, 2), 200);
        c.block(0, 1, 2, 50, 51, 0, 7);
        c.years(5);
        Due.is("nor does a lower one", c.blockOf(1, 2), 7);
    }

    private static void share0To8And0AtFirst() {
        Due.about("SHARE d eighths (0 .. 8, 0 at first)");
        SunCourt c = smallCourt();
        blockBefore(c, 1);
        Due.is("light at first", c.light(0, 0, 0, 0), 0);
        int before = 0;
        for (int eighths = 0; eighths <= 8; eighths++) {
            Due.is("what it was", c.share(0, 0, eighths), before);
            Due.is("light through " + eighths, c.light(0, 0, 0, 0), 512 * eighths);
            before = eighths;
        }
        Due.is("9", c.share(0, 0, 9), -6);
        Due.is("-1", c.share(0, 0, -1), -4);
        Due.is("light as before", c.light(0, 0, 0, 0), 4096);
        Due.is("0 again", c.share(0, 0, 0), 8);
        Due.is("no light again", c.light(0, 0, 0, 0), 0);
    }

    private static void shareOfEachDay() {
        Due.about("of DAY d it lets SHARE d through");
        SunCourt c = new SunCourt();
        smallWindow(c);
        blockBefore(c, 1);
        blockBefore(c, 1);
        for (int day = 0; day < 8; day++) {
            c.minute(day, 1, 0, 1);
            Due.is("0 at first on day " + day, c.share(0, day, day + 1), 0);
            Due.is("0 at first on day " + day, c.share(1, day, 8), 0);
        }
        for (int day = 0; day < 8; day++) {
            Due.is("light on day " + day, c.light(0, 0, day, 0), 512 * (day + 1));
            Due.is("sun on day " + day, c.sun(0, day, 0), 512 * (day + 1));
            Due.is("taker on day " + day, c.taker(0, 0, day, 0), day == 7 ? -9 : 0);
            Due.is("takes on day " + day, c.takes(0, day, 0), day == 7 ? 0 : 1);
            Due.is("hours on day " + day, c.hours(0, day), day >= 3 ? 1 : 0);
        }
    }

    private static void topGrowsUpToMost() {
        Due.about("up to its MOST");
        SunCourt c = new SunCourt();
        c.block(1, 0, 1, 0, 1, 0, 5);
        c.block(1, 0, 1, 0, 1, 0, 5);
        c.block(1, 0, 1, 0, 1, 0, 5);
        c.block(1, 0, 1, 0, 1, 0, 199);
        c.block(1, 0, 1, 0, 1, 0, 200);
        c.most(0, 5);
        c.most(1, 6);
        c.most(2, 7);
        int[][] tops = {{5, 6, 6, 200, 200}, {5, 6, 7, 200, 200}, {5, 6, 7, 200, 200}};
        for (int year = 0; year < tops.length; year++) {
            c.years(1);
            for (int tree = 0; tree < 5; tree++) {
                Due.is("year " + (year + 1) + ", tree " + tree, c.blockOf(tree, 2), tops[year][tree]);
            }
        }
        Due.is("a greater most", c.most(1, 8), 6);
        c.years(1);
        Due.is("it grows on", c.blockOf(1, 2), 7);
        c.years(9);
        Due.is("up to that", c.blockOf(1, 2), 8);
    }

    private static void topGrowsWithEachYear() {
        Due.about("its TOP is 1 more with each YEAR that passes");
        SunCourt c = new SunCourt();
        for (int kind = 0; kind < 4; kind++) {
            c.block(kind, 0, 1, 0, 1, 2, 5);
        }
        c.block(3, 0, 1, 0, 1, 2, 5);
        c.build(4);
        c.block(1, 0, 1, 0, 1, 2, 5);
        c.go(5);
        c.years(1);
        c.years(2);
        c.years(57);
        int[] tops = {5, 65, 5, 5, 5, 65};
        for (int block = 0; block < tops.length; block++) {
            Due.is("top of " + block, c.blockOf(block, 2), tops[block]);
            Due.is("foot of " + block, c.blockOf(block, 1), 2);
        }
        Due.is("a year that is refused", c.years(1), -6);
        Due.is("no growth by it", c.blockOf(1, 2), 65);
    }

    private static void mostOfATreeIs200() {
        Due.about("(MOST of a TREE is 200.)");
        SunCourt c = new SunCourt();
        c.block(1, 0, 1, 0, 1, 0, 1);
        c.block(1, 0, 1, 0, 1, 199, 200);
        Due.is("of a low one", c.blockOf(0, 3), 200);
        Due.is("of the highest", c.blockOf(1, 3), 200);
        Due.is("what it was", c.most(0, 1), 200);
        Due.is("what it is", c.blockOf(0, 3), 1);
        Due.is("of the other", c.most(1, 200), 200);
    }

    private static void mostIsNotBelowTop() {
        Due.about("MOST: -4 below its TOP; -6 above 200");
        SunCourt c = new SunCourt();
        c.block(1, 0, 1, 0, 1, 3, 7);
        Due.is("6", c.most(0, 6), -4);
        Due.is("7", c.most(0, 7), 200);
        Due.is("200", c.most(0, 200), 7);
        Due.is("201", c.most(0, 201), -6);
        c.years(1);
        Due.is("7, below its new top", c.most(0, 7), -4);
        Due.is("8", c.most(0, 8), 200);
        c.cut(0, 4);
        Due.is("3, below what was cut", c.most(0, 3), -4);
        Due.is("4, as it was cut", c.most(0, 4), 8);
        Due.is("most", c.blockOf(0, 3), 4);
    }

    private static void cutBetweenFootAndTop() {
        Due.about("cut: -4 not above its FOOT; -6 above its TOP");
        SunCourt c = new SunCourt();
        c.block(1, 0, 1, 0, 1, 3, 7);
        Due.is("above its top", c.cut(0, 8), -6);
        Due.is("its top", c.cut(0, 7), 7);
        Due.is("under its top", c.cut(0, 6), 7);
        Due.is("what it was is above now", c.cut(0, 7), -6);
        Due.is("its foot", c.cut(0, 3), -4);
        Due.is("under its foot", c.cut(0, 2), -4);
        Due.is("above its foot", c.cut(0, 4), 6);
        Due.is("top", c.blockOf(0, 2), 4);
        Due.is("most stays", c.blockOf(0, 3), 200);
        c.years(1);
        Due.is("grown again", c.cut(0, 5), 5);
    }

    private static void glassLetsAllThrough() {
        Due.about("2 GLASS: it lets all through");
        SunCourt c = smallCourt();
        blockBefore(c, 2);
        Due.is("light", c.light(0, 0, 0, 0), 4096);
        Due.is("sun", c.sun(0, 0, 0), 4096);
        Due.is("taker", c.taker(0, 0, 0, 0), -9);
        Due.is("takes", c.takes(0, 0, 0), 0);
        Due.is("it is there", c.blockOf(0, 4), 1);
        c.part(8);
        Due.is("hours", c.hours(0, 0), 1);
        c.block(0, 7, 8, 0, 1, 0, 200);
        Due.is("a block behind it", c.light(0, 0, 0, 0), 0);
        Due.is("the taker behind it", c.taker(0, 0, 0, 0), 1);
    }

    private static void plannedIsNotThere() {
        Due.about("3 PLANNED: it is not there, but where it is told to be");
        SunCourt c = smallCourt();
        blockBefore(c, 3);
        Due.is("there", c.blockOf(0, 4), 0);
        Due.is("light", c.light(0, 0, 0, 0), 4096);
        Due.is("taker", c.taker(0, 0, 0, 0), -9);
        Due.is("takes", c.takes(0, 0, 0), 0);
        Due.is("hours", c.hours(0, 0), 1);
        Due.is("told to be", c.loss(0, 0, 0), 1);
        Due.is("it is not there after that", c.light(0, 0, 0, 0), 4096);
        blockBefore(c, 3);
        Due.is("nor is another one", c.loss(1, 0, 0), 1);
    }

    private static void builtIsThereFromThenOn() {
        Due.about("built, it is there from then on");
        SunCourt c = smallCourt();
        blockBefore(c, 3);
        Due.is("build", c.build(0), 1);
        Due.is("there", c.blockOf(0, 4), 1);
        Due.is("not gone", c.blockOf(0, 5), 0);
        Due.is("kind", c.blockOf(0, 0), 3);
        Due.is("light", c.light(0, 0, 0, 0), 0);
        Due.is("taker", c.taker(0, 0, 0, 0), 0);
        Due.is("takes", c.takes(0, 0, 0), 1);
        Due.is("hours", c.hours(0, 0), 0);
        Due.is("again", c.build(0), -3);
        c.years(5);
        Due.is("there after years", c.blockOf(0, 4), 1);
        Due.is("light after years", c.light(0, 0, 0, 0), 0);
    }

    private static void goneIsThereNoMore() {
        Due.about("A BLOCK that is GONE is there no more");
        for (int kind = 0; kind < 4; kind++) {
            SunCourt c = smallCourt();
            blockBefore(c, kind);
            if (kind == 3) {
                c.build(0);
            }
            Due.is("kind " + kind + " before", c.light(0, 0, 0, 0), kind == 2 ? 4096 : 0);
            Due.is("kind " + kind + " goes", c.go(0), 1);
            Due.is("kind " + kind + ", light", c.light(0, 0, 0, 0), 4096);
            Due.is("kind " + kind + ", sun", c.sun(0, 0, 0), 4096);
            Due.is("kind " + kind + ", taker", c.taker(0, 0, 0, 0), -9);
            Due.is("kind " + kind + ", takes", c.takes(0, 0, 0), 0);
            Due.is("kind " + kind + ", hours", c.hours(0, 0), 1);
            Due.is("kind " + kind + ", there", c.blockOf(0, 4), 0);
            Due.is("kind " + kind + ", gone", c.blockOf(0, 5), 1);
            Due.is("kind " + kind + ", its number stays", c.count(1), 1);
            Due.is("kind " + kind + ", again", c.go(0), -3);
        }
    }

    private static void windows20AtMost() {
        Due.about("WINDOWS have numbers from 0 on (20 at most)");
        SunCourt c = new SunCourt();
        c.minute(0, 1, 0, 1);
        for (int number = 0; number < 20; number++) {
            Due.is("window " + number, c.window(0, number, 0, 1, 0, number + 1), number);
        }
        Due.is("a 21st", c.window(0, 0, 0, 1, 0, 1), -6);
        Due.is("count", c.count(2), 20);
        Due.is("cells of the last", c.windowOf(19, 1), 20);
        Due.is("sun of the last", c.sun(19, 0, 0), 20 * 4096);
        Due.is("hours of the last", c.hours(19, 0), 1);
        Due.is("none after it", c.windowOf(20, 1), 1000001);
        Due.is("release of the last", c.release(19), true);
        Due.is("a released one keeps its room", c.window(0, 0, 0, 1, 0, 1), -6);
    }

    private static void sides0To3() {
        Due.about("0 to greater x, 1 to lesser x, 2 to greater y, 3 to lesser y: the wall's x (y)");
        SunCourt c = new SunCourt();
        Due.is("side -1", c.window(-1, 100, 50, 51, 0, 1), -2);
        Due.is("side 4", c.window(4, 100, 50, 51, 0, 1), -2);
        c.minute(0, 1, 0, 1);
        c.minute(0, -1, 0, 1);
        c.minute(0, 0, 1, 1);
        c.minute(0, 0, -1, 1);
        int[][] before = {{102, 103, 50, 51}, {97, 98, 50, 51}, {50, 51, 102, 103}, {50, 51, 97, 98}};
        for (int side = 0; side < 4; side++) {
            Due.is("side " + side, c.window(side, 100, 50, 51, 0, 1), side);
            int[] box = before[side];
            c.block(0, box[0], box[1], box[2], box[3], 0, 200);
        }
        for (int side = 0; side < 4; side++) {
            for (int minute = 0; minute < 4; minute++) {
                Due.is("taker of side " + side + " at " + minute, c.taker(side, 0, 0, minute), minute == side ? side : -8);
            }
        }
    }

    private static void atMost64Cells() {
        Due.about("at most 64 CELLS");
        SunCourt c = new SunCourt();
        c.minute(0, 1, 0, 1);
        int[][] taken = {{64, 1}, {1, 64}, {8, 8}, {7, 9}, {32, 2}, {1, 1}};
        for (int i = 0; i < taken.length; i++) {
            int cells = taken[i][0] * taken[i][1];
            Due.is(cells + " cells", c.window(0, 0, 0, taken[i][0], 0, taken[i][1]), i);
            Due.is("cells", c.windowOf(i, 1), cells);
            Due.is("sun of all", c.sun(i, 0, 0), 4096 * cells);
            Due.is("the last", c.light(i, cells - 1, 0, 0), 4096);
            Due.is("none after it", c.light(i, cells, 0, 0), -1);
            Due.is("none before the first", c.light(i, -1, 0, 0), -1);
        }
        int[][] refused = {{65, 1}, {1, 65}, {13, 5}, {5, 13}, {33, 2}, {22, 3}, {200, 200}};
        for (int[] size : refused) {
            Due.is(size[0] * size[1] + " cells", c.window(0, 0, 0, size[0], 0, size[1]), -6);
        }
        Due.is("not counted from 0, but from u0 and z0", c.window(0, 0, 192, 200, 192, 200), taken.length);
    }

    /** A BLOCK before one POINT alone, at u and z, for a way that leads out 2 and rises 1. */
    private static void blockBeforeOne(SunCourt c, int side, int u, int z) {
        if (side == 0) {
            c.block(0, 1, 2, u, u + 1, z + 1, z + 2);
        } else {
            c.block(0, u, u + 1, 1, 2, z + 1, z + 2);
        }
    }

    private static void cellsByZThenU() {
        Due.about("numbered by z, then u, rising");
        for (int side = 0; side <= 2; side += 2) {
            for (int cell = 0; cell < 12; cell++) {
                SunCourt c = new SunCourt();
                c.minute(0, side == 0 ? 2 : 0, side == 0 ? 0 : 2, 1);
                c.window(side, 0, 20, 24, 30, 33);
                blockBeforeOne(c, side, 20 + cell % 4, 30 + cell / 4);
                for (int other = 0; other < 12; other++) {
                    Due.is("side " + side + ", block before " + cell + ", light of " + other,
                        c.light(0, other, 0, 0), other == cell ? 0 : 4096);
                }
            }
        }
    }

    /** A place on the way that is on an edge of a BLOCK: any other start would lead into one of two. */
    private static void pointIsTheMiddle() {
        Due.about("The POINT of a CELL is its middle");
        SunCourt c = new SunCourt();
        c.minute(0, 2, 1, 1);
        c.minute(0, 1, 2, 1);
        c.window(0, 0, 0, 2, 0, 2);
        c.window(2, 0, 0, 2, 0, 2);
        // From 1/2, 1/2 the place at 5 to the side is 3, 3; from 3/2, 3/2 it is 4, 4.
        int[] first = {0, 3};
        int[] edge = {3, 4};
        for (int i = 0; i < 2; i++) {
            int at = edge[i];
            int[][] boxes = {{5, 6, 0, at, 0, 200}, {4, 5, at, 200, 0, 200}, {5, 6, 0, 200, 0, at}, {4, 5, 0, 200, at, 200}};
            for (int[] box : boxes) {
                lightBeside(c.count(1), c, first[i], box);
            }
            int[][] within = {{5, 6, 0, at + 1, 0, 200}, {4, 5, at - 1, 200, 0, 200},
                {5, 6, 0, 200, 0, at + 1}, {4, 5, 0, 200, at - 1, 200}};
            for (int[] box : within) {
                lightWithin(c.count(1), c, first[i], box);
            }
        }
    }

    private static void lightBeside(int number, SunCourt c, int cell, int[] box) {
        c.block(0, box[0], box[1], box[2], box[3], box[4], box[5]);
        Due.is("side 0, cell " + cell + ", on the edge of " + number, c.light(0, cell, 0, 0), 4096);
        c.go(number);
        c.block(0, box[2], box[3], box[0], box[1], box[4], box[5]);
        Due.is("side 2, cell " + cell + ", on the edge of " + number, c.light(1, cell, 0, 1), 4096);
        c.go(number + 1);
    }

    private static void lightWithin(int number, SunCourt c, int cell, int[] box) {
        c.block(0, box[0], box[1], box[2], box[3], box[4], box[5]);
        Due.is("side 0, cell " + cell + ", within " + number, c.light(0, cell, 0, 0), 0);
        c.go(number);
        c.block(0, box[2], box[3], box[0], box[1], box[4], box[5]);
        Due.is("side 2, cell " + cell + ", within " + number, c.light(1, cell, 0, 1), 0);
        c.go(number + 1);
    }

    private static void blockOfWhats() {
        Due.about("0 KIND, 1 FOOT, 2 TOP, 3 MOST of a TREE (else -9), 4 1 if it is there, 5 1 if it is GONE");
        SunCourt c = new SunCourt();
        for (int kind = 0; kind < 4; kind++) {
            c.block(kind, 0, 1, 0, 1, 10 + kind, 20 + kind);
        }
        for (int kind = 0; kind < 4; kind++) {
            int[] due = {kind, 10 + kind, 20 + kind, kind == 1 ? 200 : -9, kind == 3 ? 0 : 1, 0};
            for (int what = 0; what < 6; what++) {
                Due.is("of " + kind + ": " + what, c.blockOf(kind, what), due[what]);
            }
            Due.is("of " + kind + ": -1", c.blockOf(kind, -1), 1000002);
            Due.is("of " + kind + ": 6", c.blockOf(kind, 6), 1000002);
            c.go(kind);
            due[4] = 0;
            due[5] = 1;
            for (int what = 0; what < 6; what++) {
                Due.is("of " + kind + ", gone: " + what, c.blockOf(kind, what), due[what]);
            }
        }
    }

    private static void windowOfWhats() {
        Due.about("0 SIDE, 1 CELLS, 2 YEARS of RIGHT, 3 1 if it is LAWFUL now, 4 1 if it is KEPT, 5 the first DAY (-9)");
        SunCourt c = smallCourt();
        c.window(1, 9, 0, 3, 0, 2);
        c.law(0, 1);
        c.years(2);
        int[][] early = {{0, 1, 2, 1, 0, -9}, {1, 6, 0, 0, 0, 0}};
        int[][] late = {{0, 1, 3, 1, 1, -9}, {1, 6, 0, 0, 0, 0}};
        for (int window = 0; window < 2; window++) {
            for (int what = 0; what < 6; what++) {
                Due.is("of " + window + ", after 2 years: " + what, c.windowOf(window, what), early[window][what]);
            }
        }
        c.years(1);
        for (int window = 0; window < 2; window++) {
            for (int what = 0; what < 6; what++) {
                Due.is("of " + window + ", after 3 years: " + what, c.windowOf(window, what), late[window][what]);
            }
            Due.is("of " + window + ": -1", c.windowOf(window, -1), 1000002);
            Due.is("of " + window + ": 6", c.windowOf(window, 6), 1000002);
        }
    }

    private static void countOfAll() {
        Due.about("0 YEAR, 1 BLOCKS, 2 WINDOWS, 3 MINUTES of all DAYS, 4 WINDOWS that are LAWFUL, 5 KEPT ones");
        SunCourt c = new SunCourt();
        for (int what = 0; what <= 5; what++) {
            Due.is("of a new object: " + what, c.count(what), 0);
        }
        c.minute(0, 1, 0, 1);
        for (int minute = 0; minute < 6; minute++) {
            c.minute(7, 1, 0, 1);
        }
        for (int block = 0; block < 5; block++) {
            c.block(0, 100, 101, 0, 1, 0, 1);
        }
        c.go(4);
        for (int window = 0; window < 4; window++) {
            c.window(window == 3 ? 1 : 0, 0, 0, 1, 0, 1);
        }
        c.law(0, 1);
        c.years(8);
        c.release(0);
        int[] due = {8, 5, 4, 7, 3, 2};
        for (int what = 0; what <= 5; what++) {
            Due.is("count(" + what + ")", c.count(what), due[what]);
        }
        for (int what : new int[] {-1, 6, 10, 17}) {
            Due.is("count(" + what + ")", c.count(what), -9);
        }
    }
}
