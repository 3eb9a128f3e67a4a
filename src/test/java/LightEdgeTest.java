/**
 * What the document's terms say of LIGHT, SUN, LIT, HOURS and TAKERS, a test for each sentence that
 * names an edge: the last that is still so and the first that is so no more.
 */
public final class LightEdgeTest {
    private LightEdgeTest() {
    }

    public static void main(String[] args) {
        inFrontAboveOrBelow0();
        tAbove0();
        tAbove0FromTheWall();
        withinNotOnlyOnItsOutside();
        withinByEachAxis();
        cornersAndEdges();
        nothingWithoutTheSunInFront();
        nothingBehindABlock();
        shareDividedBy8Cut();
        cutAtEachTree();
        treesByNumbers();
        sumOverCells();
        sumOverTheFirstAndTheLastCells();
        fortyBlocksBeforeOnePoint();
        partOrMore();
        partOneLess();
        part1To8And4AtFirst();
        hoursOfEachDay();
        takerOfNone();
        takerAsideGlassAndShare8();
        takerThatIsThere();
        nearestByLeastT();
        ofSeveralTheLeastNumber();
        leastTOfOneThatHoldsThePoint();
        takesByMinutesAndCells();
        hoursFollowEachChange();
        Due.end();
    }

    /** LIGHT of the one CELL of a WINDOW at place 10, under a way, with a BLOCK there. */
    private static int lightPast(int side, int[] way, int... box) {
        SunCourt c = new SunCourt();
        c.minute(0, way[0], way[1], way[2]);
        c.window(side, 10, 10, 11, 10, 11);
        c.block(0, box[0], box[1], box[2], box[3], box[4], box[5]);
        return c.light(0, 0, 0, 0);
    }

    /** A POINT at 0, 1/2, 1/2 that looks to greater x, and the SUN's way 1, 0, 1. */
    private static SunCourt smallCourt() {
        SunCourt c = new SunCourt();
        c.minute(0, 1, 0, 1);
        c.window(0, 0, 0, 1, 0, 1);
        return c;
    }

    /** A BLOCK before that POINT, from x on. */
    private static int blockFrom(SunCourt c, int kind, int x) {
        return c.block(kind, x, x + 1, 0, 1, 0, 200);
    }

    private static void inFrontAboveOrBelow0() {
        Due.about("its x, or y, is above 0 for SIDES 0, 2, below 0 for 1, 3");
        for (int side = 0; side < 4; side++) {
            for (int out = -1; out <= 1; out++) {
                for (int along = -50; along <= 50; along += 50) {
                    SunCourt c = new SunCourt();
                    c.minute(0, side < 2 ? out : along, side < 2 ? along : out, 50);
                    c.window(side, 100, 100, 101, 0, 1);
                    boolean inFront = side % 2 == 0 ? out > 0 : out < 0;
                    String where = "side " + side + ", way " + out + ", along " + along;
                    Due.is(where + ", light", c.light(0, 0, 0, 0), inFront ? 4096 : 0);
                    Due.is(where + ", sun", c.sun(0, 0, 0), inFront ? 4096 : 0);
                    Due.is(where + ", taker", c.taker(0, 0, 0, 0), inFront ? -9 : -8);
                    Due.is(where + ", hours", c.hours(0, 0), inFront ? 1 : 0);
                }
            }
        }
    }

    private static void tAbove0() {
        Due.about("t above 0");
        int[] way = {1, 1, 1};
        Due.is("it ends at the POINT's wall", lightPast(0, way, 0, 10, 0, 200, 0, 200), 4096);
        Due.is("it begins at the POINT's wall", lightPast(0, way, 10, 11, 0, 200, 0, 200), 0);
        Due.is("the POINT is within", lightPast(0, way, 9, 11, 0, 200, 0, 200), 0);
        Due.is("all of it is behind", lightPast(0, way, 0, 9, 0, 200, 0, 200), 4096);
        // Its unit alone, back along the way and on along it.
        Due.is("on the way back", lightPast(0, way, 8, 9, 8, 9, 8, 9), 4096);
        Due.is("on the way", lightPast(0, way, 12, 13, 12, 13, 12, 13), 0);
        int[] back = {-1, -1, 1};
        Due.is("side 1, it ends at the wall", lightPast(1, back, 0, 10, 0, 200, 0, 200), 0);
        Due.is("side 1, it begins at the wall", lightPast(1, back, 10, 200, 0, 200, 0, 200), 4096);
        Due.is("side 1, the POINT is within", lightPast(1, back, 9, 11, 0, 200, 0, 200), 0);
        Due.is("side 3, it ends at the wall", lightPast(3, back, 0, 200, 0, 10, 0, 200), 0);
        Due.is("side 3, it begins at the wall", lightPast(3, back, 0, 200, 10, 200, 0, 200), 4096);
        Due.is("side 2, it ends at the wall", lightPast(2, way, 0, 200, 0, 10, 0, 200), 4096);
        Due.is("side 2, it begins at the wall", lightPast(2, way, 0, 200, 10, 200, 0, 200), 0);
    }

    /** A wall at 0 or at 200 has nothing behind it. */
    private static void tAbove0FromTheWall() {
        Due.about("t above 0, at the ends of all places");
        for (int side = 0; side < 4; side++) {
            int out = side % 2 == 0 ? 1 : -1;
            for (int at = 0; at <= 200; at += 200) {
                SunCourt c = new SunCourt();
                c.minute(0, side < 2 ? out : 0, side < 2 ? 0 : out, 1);
                c.window(side, at, 0, 1, 0, 1);
                c.block(0, 0, 200, 0, 200, 0, 200);
                boolean outwards = side % 2 == 0 ? at == 200 : at == 0;
                Due.is("side " + side + " at " + at, c.light(0, 0, 0, 0), outwards ? 4096 : 0);
            }
        }
    }

    /** The POINT is 10, 10 1/2, 10 1/2; the way rises 1 for 2, so z is 13 at x 15. */
    private static void withinNotOnlyOnItsOutside() {
        Due.about("within the BLOCK (not only on its outside)");
        int[] way = {2, 0, 1};
        Due.is("a top that is met at its edge", lightPast(0, way, 15, 16, 10, 11, 0, 13), 4096);
        Due.is("a top 1 higher", lightPast(0, way, 15, 16, 10, 11, 0, 14), 0);
        Due.is("that top 1 nearer", lightPast(0, way, 14, 16, 10, 11, 0, 13), 0);
        Due.is("a foot that is met at its edge", lightPast(0, way, 14, 15, 10, 11, 13, 200), 4096);
        Due.is("a foot 1 lower", lightPast(0, way, 14, 15, 10, 11, 12, 200), 0);
        Due.is("that foot 1 farther", lightPast(0, way, 14, 16, 10, 11, 13, 200), 0);
        Due.is("beside it, to greater y", lightPast(0, way, 11, 200, 11, 200, 0, 200), 4096);
        Due.is("beside it, to lesser y", lightPast(0, way, 11, 200, 0, 10, 0, 200), 4096);
        Due.is("its unit of y", lightPast(0, way, 11, 200, 10, 11, 0, 200), 0);
        Due.is("over it all along", lightPast(0, way, 10, 200, 10, 11, 0, 10), 4096);
        Due.is("under it all along", lightPast(0, way, 10, 20, 10, 11, 16, 200), 4096);
        Due.is("into it at its end", lightPast(0, way, 10, 20, 10, 11, 15, 200), 0);
    }

    /** y rises or falls by 1 for 2, so it is 13 or 8 at x 15. */
    private static void withinByEachAxis() {
        Due.about("within the BLOCK, by x and y");
        int[] rising = {2, 1, 1};
        int[] falling = {2, -1, 1};
        Due.is("rising, at an edge", lightPast(0, rising, 15, 16, 0, 13, 0, 200), 4096);
        Due.is("rising, within", lightPast(0, rising, 15, 16, 0, 14, 0, 200), 0);
        Due.is("rising, at a far edge", lightPast(0, rising, 14, 15, 13, 200, 0, 200), 4096);
        Due.is("rising, within that", lightPast(0, rising, 14, 15, 12, 200, 0, 200), 0);
        Due.is("falling, at an edge", lightPast(0, falling, 15, 16, 8, 200, 0, 200), 4096);
        Due.is("falling, within", lightPast(0, falling, 15, 16, 7, 200, 0, 200), 0);
        Due.is("falling, at a far edge", lightPast(0, falling, 14, 15, 0, 8, 0, 200), 4096);
        Due.is("falling, within that", lightPast(0, falling, 14, 15, 0, 9, 0, 200), 0);
        int[] westward = {-2, 1, 1};
        Due.is("to lesser x, at an edge", lightPast(1, westward, 4, 5, 0, 13, 0, 200), 4096);
        Due.is("to lesser x, within", lightPast(1, westward, 4, 5, 0, 14, 0, 200), 0);
        int[] northward = {1, -2, 1};
        Due.is("to lesser y, at an edge", lightPast(3, northward, 0, 13, 4, 5, 0, 200), 4096);
        Due.is("to lesser y, within", lightPast(3, northward, 0, 14, 4, 5, 0, 200), 0);
    }

    /** Under way 2, 1, 1 the place at x 15 is 15, 13, 13. */
    private static void cornersAndEdges() {
        Due.about("within the BLOCK, its corners and edges");
        int[] way = {2, 1, 1};
        Due.is("a corner alone", lightPast(0, way, 15, 20, 0, 13, 13, 200), 4096);
        Due.is("another corner alone", lightPast(0, way, 15, 20, 13, 200, 0, 13), 4096);
        Due.is("a far corner alone", lightPast(0, way, 11, 15, 13, 200, 13, 200), 4096);
        Due.is("in by a corner", lightPast(0, way, 15, 20, 13, 200, 13, 200), 0);
        Due.is("out by a corner", lightPast(0, way, 11, 15, 0, 13, 0, 13), 0);
        Due.is("in by an edge", lightPast(0, way, 15, 20, 13, 200, 0, 200), 0);
        // y and z are alike all along, so an edge of the BLOCK is met where both are 13.
        Due.is("an edge of y and z", lightPast(0, way, 11, 200, 0, 13, 13, 200), 4096);
        Due.is("the other edge of y and z", lightPast(0, way, 11, 200, 13, 200, 0, 13), 4096);
        Due.is("in by that edge", lightPast(0, way, 11, 200, 13, 200, 13, 200), 0);
    }

    private static void nothingWithoutTheSunInFront() {
        Due.about("LIGHT of a POINT: 0 without the SUN in front");
        SunCourt c = smallCourt();
        c.minute(0, -1, 0, 1);
        c.minute(0, 0, 1, 1);
        c.minute(0, 0, 0, 50);
        for (int minute = 1; minute < 4; minute++) {
            Due.is("light at " + minute, c.light(0, 0, 0, minute), 0);
        }
        blockFrom(c, 2, 5);
        Due.is("glass changes nothing", c.light(0, 0, 0, 1), 0);
        c.part(1);
        Due.is("hours", c.hours(0, 0), 1);
    }

    private static void nothingBehindABlock() {
        Due.about("or if a BLOCK (that is there, of KIND 0, or a PLANNED one that was built) stands before it");
        SunCourt c = smallCourt();
        blockFrom(c, 3, 9);
        Due.is("planned", c.light(0, 0, 0, 0), 4096);
        c.build(0);
        Due.is("built", c.light(0, 0, 0, 0), 0);
        c.go(0);
        Due.is("gone", c.light(0, 0, 0, 0), 4096);
        blockFrom(c, 1, 5);
        c.share(1, 0, 8);
        blockFrom(c, 0, 7);
        Due.is("a block behind a tree of 8", c.light(0, 0, 0, 0), 0);
        c.go(2);
        Due.is("without it", c.light(0, 0, 0, 0), 4096);
        blockFrom(c, 0, 3);
        Due.is("a block before that tree", c.light(0, 0, 0, 0), 0);
    }

    /** Trees before the small POINT, each with its SHARE, the farthest first. */
    private static SunCourt trees(int... shares) {
        SunCourt c = smallCourt();
        for (int tree = 0; tree < shares.length; tree++) {
            blockFrom(c, 1, 50 - tree);
            c.share(tree, 0, shares[tree]);
        }
        return c;
    }

    private static void shareDividedBy8Cut() {
        Due.about("that times its SHARE of the DAY, divided by 8, cut");
        Due.is("no tree", trees().light(0, 0, 0, 0), 4096);
        Due.is("8", trees(8, 8, 8).light(0, 0, 0, 0), 4096);
        Due.is("7", trees(7).light(0, 0, 0, 0), 3584);
        Due.is("7 and 7", trees(7, 7).light(0, 0, 0, 0), 3136);
        Due.is("one eighth of 8", trees(1, 1, 1, 1).light(0, 0, 0, 0), 1);
        Due.is("one eighth of 7", trees(1, 1, 1, 7, 1).light(0, 0, 0, 0), 0);
        Due.is("4 eighths of 2", trees(1, 1, 1, 2, 4).light(0, 0, 0, 0), 1);
        Due.is("3 eighths of 2", trees(1, 1, 1, 2, 3).light(0, 0, 0, 0), 0);
        Due.is("7 eighths of 1", trees(1, 1, 1, 1, 7).light(0, 0, 0, 0), 0);
        Due.is("8 eighths of 1", trees(1, 1, 1, 1, 8).light(0, 0, 0, 0), 1);
        Due.is("0", trees(8, 0, 8).light(0, 0, 0, 0), 0);
    }

    private static void cutAtEachTree() {
        Due.about("cut at each TREE, not at the end");
        // 8, then 3, 1 (of 1 7/8), 0 (of 5/8): in one step it would be 8 * 75 / 512, which is above 1.
        Due.is("three cuts", trees(1, 1, 1, 3, 5, 5).light(0, 0, 0, 0), 0);
        // 1000, then 875, 765, 669, 585, 511: in one step it would be 512.
        Due.is("511", trees(5, 5, 5, 7, 7, 7, 7, 7).light(0, 0, 0, 0), 511);
    }

    private static void treesByNumbers() {
        Due.about("for each TREE that stands before it, by numbers");
        // 8, then 5, 3 (of 3 1/8), 1 (of 1 1/8); the other way round 3, 1, 0.
        Due.is("the farthest first", trees(1, 1, 1, 5, 5, 3).light(0, 0, 0, 0), 1);
        SunCourt c = smallCourt();
        int[] shares = {1, 1, 1, 5, 5, 3};
        for (int tree = 0; tree < shares.length; tree++) {
            blockFrom(c, 1, 10 + tree);
            c.share(tree, 0, shares[tree]);
        }
        Due.is("the nearest first", c.light(0, 0, 0, 0), 1);
        c.block(1, 10, 11, 1, 2, 0, 200);
        Due.is("a tree beside the way", c.light(0, 0, 0, 0), 1);
        c.go(5);
        Due.is("without the last", c.light(0, 0, 0, 0), 3);
    }

    private static void sumOverCells() {
        Due.about("SUN of a WINDOW: the sum over its CELLS");
        SunCourt c = new SunCourt();
        c.minute(0, 1, 0, 1);
        c.window(0, 0, 0, 8, 0, 8);
        Due.is("all", c.sun(0, 0, 0), 64 * 4096);
        c.block(0, 1, 2, 0, 1, 0, 200);
        Due.is("a column is dark", c.sun(0, 0, 0), 56 * 4096);
        c.block(1, 1, 2, 7, 8, 0, 200);
        c.share(1, 0, 1);
        Due.is("a column under a tree", c.sun(0, 0, 0), 48 * 4096 + 8 * 512);
        int sum = 0;
        for (int cell = 0; cell < 64; cell++) {
            int light = c.light(0, cell, 0, 0);
            Due.is("light of " + cell, light, cell % 8 == 0 ? 0 : cell % 8 == 7 ? 512 : 4096);
            sum += light;
        }
        Due.is("the sum", c.sun(0, 0, 0), sum);
        c.block(0, 1, 2, 0, 8, 0, 200);
        Due.is("none", c.sun(0, 0, 0), 0);
    }

    /** A WINDOW at wall 100 from 50 and 20 on, the SUN 2 out, 1 or none along and 1 up. */
    private static SunCourt leaningCourt(int side, int along, int width, int height) {
        SunCourt c = new SunCourt();
        int out = side % 2 == 0 ? 2 : -2;
        c.minute(0, side < 2 ? out : along, side < 2 ? along : out, 1);
        c.window(side, 100, 50, 50 + width, 20, 20 + height);
        return c;
    }

    /** A BLOCK of one unit that stands before one POINT of that WINDOW, and before no other. */
    private static void unitBefore(SunCourt c, int side, int along, int u, int z) {
        int from = side % 2 == 0 ? 101 : 98;
        int beside = u + along;
        if (side < 2) {
            c.block(0, from, from + 1, beside, beside + 1, z + 1, z + 2);
        } else {
            c.block(0, beside, beside + 1, from, from + 1, z + 1, z + 2);
        }
    }

    private static void sumOverTheFirstAndTheLastCells() {
        Due.about("SUN of a WINDOW: each of its CELLS, from the first to the last");
        int[][] sizes = {{1, 1}, {4, 3}, {3, 4}, {1, 6}, {6, 1}, {1, 64}, {64, 1}};
        for (int[] size : sizes) {
            for (int side = 0; side < 4; side++) {
                for (int along = -1; along <= 1; along++) {
                    eachCellIsTaken(side, along, size[0], size[1]);
                }
            }
        }
    }

    private static void eachCellIsTaken(int side, int along, int width, int height) {
        int cells = width * height;
        for (int cell = 0; cell < cells; cell += cells == 64 ? 9 : 1) {
            SunCourt c = leaningCourt(side, along, width, height);
            unitBefore(c, side, along, 50 + cell % width, 20 + cell / width);
            String where = width + " by " + height + ", side " + side + ", along " + along + ", cell " + cell;
            Due.is(where + ", sun", c.sun(0, 0, 0), (cells - 1) * 4096);
            Due.is(where + ", takes", c.takes(0, 0, 0), 1);
            c.part(8);
            Due.is(where + ", hours", c.hours(0, 0), 0);
            for (int other = 0; other < cells; other++) {
                Due.is(where + ", light of " + other, c.light(0, other, 0, 0), other == cell ? 0 : 4096);
            }
            Due.is(where + ", taker", c.taker(0, cell, 0, 0), 0);
        }
    }

    private static void fortyBlocksBeforeOnePoint() {
        Due.about("40 at most, all of them before one POINT");
        SunCourt c = smallCourt();
        int due = 4096;
        for (int tree = 0; tree < 40; tree++) {
            blockFrom(c, 1, 40 - tree);
            c.share(tree, 0, 7);
            due = due * 7 / 8;
            Due.is("light through " + (tree + 1), c.light(0, 0, 0, 0), due);
        }
        Due.is("sun", c.sun(0, 0, 0), due);
        Due.is("the last is the nearest", c.taker(0, 0, 0, 0), 39);
        Due.is("takes of the last", c.takes(0, 0, 39), 1);
        Due.is("takes of the first", c.takes(0, 0, 0), 0);
        SunCourt d = smallCourt();
        for (int block = 0; block < 40; block++) {
            blockFrom(d, block % 2 == 0 ? 3 : 0, 40 - block);
        }
        Due.is("planned and blocks", d.taker(0, 0, 0, 0), 39);
        for (int block = 1; block < 40; block += 2) {
            d.go(block);
        }
        Due.is("planned alone", d.hours(0, 0), 1);
        Due.is("loss by the last of them", d.loss(38, 0, 0), 1);
    }

    /** Of 8 CELLS so many have light. */
    private static SunCourt litCells(int lit) {
        SunCourt c = new SunCourt();
        c.minute(0, 1, 0, 1);
        c.window(0, 0, 0, 8, 0, 1);
        if (lit < 8) {
            c.block(0, 1, 2, lit, 8, 0, 200);
        }
        return c;
    }

    private static void partOrMore() {
        Due.about("8 times its SUN is PART times 4096 times its CELLS, or more");
        for (int lit = 0; lit <= 8; lit++) {
            SunCourt c = litCells(lit);
            Due.is("4 at first, lit " + lit, c.hours(0, 0), lit >= 4 ? 1 : 0);
            for (int part = 1; part <= 8; part++) {
                c.part(part);
                Due.is("part " + part + ", lit " + lit, c.hours(0, 0), lit >= part ? 1 : 0);
            }
        }
    }

    private static void partOneLess() {
        Due.about("or more, and not one less");
        SunCourt enough = trees(1);
        enough.part(1);
        Due.is("512 of 4096", enough.hours(0, 0), 1);
        SunCourt less = trees(5, 5, 5, 7, 7, 7, 7, 7);
        less.part(1);
        Due.is("511 of 4096", less.hours(0, 0), 0);
        SunCourt c = new SunCourt();
        c.minute(0, 1, 0, 1);
        c.window(0, 0, 0, 8, 0, 8);
        c.block(1, 1, 2, 0, 1, 0, 2);
        c.share(0, 0, 7);
        c.part(8);
        Due.is("64 cells but for an eighth of one", c.sun(0, 0, 0), 64 * 4096 - 512);
        Due.is("not all", c.hours(0, 0), 0);
        c.share(0, 0, 8);
        Due.is("all", c.hours(0, 0), 1);
        c.share(0, 0, 0);
        c.part(7);
        Due.is("63 cells of 64", c.hours(0, 0), 1);
    }

    private static void part1To8And4AtFirst() {
        Due.about("PART (1 .. 8; 4 at first)");
        SunCourt c = new SunCourt();
        Due.is("0", c.part(0), -4);
        Due.is("9", c.part(9), -6);
        Due.is("4 at first", c.part(1), 4);
        for (int part = 2; part <= 8; part++) {
            Due.is("what it was", c.part(part), part - 1);
        }
        Due.is("0", c.part(0), -4);
        Due.is("9", c.part(9), -6);
        Due.is("8 still", c.part(8), 8);
    }

    private static void hoursOfEachDay() {
        Due.about("HOURS of a DAY: at how many MINUTES of it");
        SunCourt c = new SunCourt();
        c.window(0, 0, 0, 1, 0, 1);
        Due.is("none", c.hours(0, 0), 0);
        for (int minute = 0; minute < 24; minute++) {
            c.minute(0, minute % 2 == 0 ? 1 : -1, 0, 1);
            c.minute(7, 1, 0, 1 + minute);
            Due.is("every other one", c.hours(0, 0), minute / 2 + 1);
            Due.is("every one", c.hours(0, 7), minute + 1);
        }
        Due.is("none on another day", c.hours(0, 1), 0);
        Due.is("none on another day", c.hours(0, 6), 0);
        // z is 4 1/2 + 4 m at x 4: a TOP of 50 is above the first 12, one of 97 above them all.
        c.block(0, 4, 5, 0, 1, 0, 50);
        Due.is("half of them", c.hours(0, 7), 12);
        c.block(0, 4, 5, 0, 1, 0, 96);
        Due.is("the last alone", c.hours(0, 7), 1);
        c.block(0, 4, 5, 0, 1, 0, 97);
        Due.is("none of 24", c.hours(0, 7), 0);
    }

    private static void takerOfNone() {
        Due.about("-9 if there is none, -8 without the SUN in front");
        SunCourt c = smallCourt();
        c.minute(0, -1, 0, 1);
        c.minute(0, 0, 50, 1);
        Due.is("none", c.taker(0, 0, 0, 0), -9);
        Due.is("behind", c.taker(0, 0, 0, 1), -8);
        Due.is("along", c.taker(0, 0, 0, 2), -8);
        c.block(0, 0, 200, 0, 200, 0, 200);
        Due.is("one", c.taker(0, 0, 0, 0), 0);
        Due.is("behind all the same", c.taker(0, 0, 0, 1), -8);
        Due.is("along all the same", c.taker(0, 0, 0, 2), -8);
        c.go(0);
        c.block(0, 5, 6, 0, 1, 0, 5);
        Due.is("one beside the way", c.taker(0, 0, 0, 0), -9);
    }

    private static void takerAsideGlassAndShare8() {
        Due.about("(GLASS and TREES with SHARE 8 aside)");
        SunCourt c = smallCourt();
        blockFrom(c, 2, 2);
        blockFrom(c, 1, 4);
        blockFrom(c, 0, 6);
        for (int eighths = 0; eighths <= 8; eighths++) {
            c.share(1, 0, eighths);
            Due.is("share " + eighths, c.taker(0, 0, 0, 0), eighths == 8 ? 2 : 1);
            Due.is("share " + eighths + ", takes of the tree", c.takes(0, 0, 1), eighths == 8 ? 0 : 1);
            Due.is("share " + eighths + ", takes of the block", c.takes(0, 0, 2), eighths == 8 ? 1 : 0);
            Due.is("share " + eighths + ", takes of glass", c.takes(0, 0, 0), 0);
        }
        c.go(2);
        Due.is("glass and 8 alone", c.taker(0, 0, 0, 0), -9);
        c.share(1, 1, 0);
        Due.is("the share of another day", c.taker(0, 0, 0, 0), -9);
    }

    private static void takerThatIsThere() {
        Due.about("of all that stand before it and are there");
        SunCourt c = smallCourt();
        blockFrom(c, 3, 2);
        blockFrom(c, 0, 4);
        blockFrom(c, 1, 6);
        blockFrom(c, 0, 8);
        Due.is("planned is not", c.taker(0, 0, 0, 0), 1);
        c.build(0);
        Due.is("built is", c.taker(0, 0, 0, 0), 0);
        c.go(0);
        Due.is("gone is not", c.taker(0, 0, 0, 0), 1);
        c.go(1);
        Due.is("a tree behind it", c.taker(0, 0, 0, 0), 2);
        c.go(2);
        Due.is("a gone tree is not", c.taker(0, 0, 0, 0), 3);
        c.go(3);
        Due.is("none", c.taker(0, 0, 0, 0), -9);
    }

    private static void nearestByLeastT() {
        Due.about("that whose least t is least");
        SunCourt c = smallCourt();
        blockFrom(c, 0, 9);
        blockFrom(c, 0, 8);
        Due.is("the nearer has the greater number", c.taker(0, 0, 0, 0), 1);
        c.block(0, 7, 100, 0, 1, 0, 8);
        Due.is("met for a short way, but sooner", c.taker(0, 0, 0, 0), 2);
        c.block(0, 0, 200, 0, 1, 7, 200);
        Due.is("sooner by its foot", c.taker(0, 0, 0, 0), 3);
        SunCourt d = new SunCourt();
        d.minute(0, 3, 0, 7);
        d.window(0, 0, 0, 1, 0, 1);
        d.block(0, 5, 6, 0, 1, 0, 200);
        d.block(0, 0, 10, 0, 1, 12, 200);
        Due.is("23/14 is before 5/3", d.taker(0, 0, 0, 0), 1);
        SunCourt e = new SunCourt();
        e.minute(0, 49, 50, 50);
        e.window(0, 0, 0, 1, 0, 1);
        e.block(0, 0, 200, 0, 200, 197, 200);
        e.block(0, 0, 200, 197, 200, 0, 200);
        Due.is("the same by y and by z", e.taker(0, 0, 0, 0), 0);
        e.block(0, 193, 200, 0, 200, 0, 200);
        // 196 1/2 over 50 is 3.93; 193 over 49 is 3.9388, 192 over 49 is 3.9184.
        Due.is("193 over 49 is a little later", e.taker(0, 0, 0, 0), 0);
        e.block(0, 192, 200, 0, 200, 0, 200);
        Due.is("192 over 49 is a little sooner", e.taker(0, 0, 0, 0), 3);
    }

    private static void ofSeveralTheLeastNumber() {
        Due.about("of several the least number");
        SunCourt c = smallCourt();
        blockFrom(c, 0, 9);
        for (int block = 1; block < 4; block++) {
            c.block(block % 2, 5, 20 - block, 0, 1, 0, 200);
        }
        for (int block = 1; block < 4; block++) {
            Due.is("of those that are left", c.taker(0, 0, 0, 0), block);
            Due.is("it takes", c.takes(0, 0, block), 1);
            c.go(block);
        }
        Due.is("the farther one", c.taker(0, 0, 0, 0), 0);
        SunCourt d = new SunCourt();
        d.minute(0, 2, 0, 1);
        d.window(0, 0, 0, 1, 0, 1);
        d.block(0, 0, 10, 0, 1, 3, 20);
        d.block(0, 5, 6, 0, 1, 0, 200);
        Due.is("the same t by foot and by side", d.taker(0, 0, 0, 0), 0);
        d.go(0);
        d.block(0, 0, 10, 0, 1, 3, 20);
        Due.is("the same t by side and by foot", d.taker(0, 0, 0, 0), 1);
    }

    private static void leastTOfOneThatHoldsThePoint() {
        Due.about("least t of one that holds the POINT, or begins at it");
        SunCourt c = new SunCourt();
        c.minute(0, 1, 0, 1);
        c.window(0, 10, 0, 1, 0, 1);
        c.block(0, 11, 12, 0, 1, 0, 200);
        Due.is("one unit before it", c.taker(0, 0, 0, 0), 0);
        c.block(0, 10, 20, 0, 1, 0, 8);
        Due.is("one at it", c.taker(0, 0, 0, 0), 1);
        c.block(0, 0, 20, 0, 1, 0, 8);
        Due.is("one that holds it is no sooner", c.taker(0, 0, 0, 0), 1);
        c.go(1);
        Due.is("one that holds it", c.taker(0, 0, 0, 0), 2);
        c.block(0, 5, 20, 0, 1, 0, 200);
        Due.is("two that hold it", c.taker(0, 0, 0, 0), 2);
        c.go(2);
        c.go(3);
        c.block(0, 0, 10, 0, 1, 0, 200);
        Due.is("one that ends at it", c.taker(0, 0, 0, 0), 0);
    }

    private static void takesByMinutesAndCells() {
        Due.about("At how many MINUTES of a DAY and CELLS of a WINDOW a BLOCK is the TAKER");
        SunCourt c = new SunCourt();
        c.window(0, 0, 0, 8, 0, 8);
        c.block(0, 10, 11, 0, 200, 0, 200);
        Due.is("no minute", c.takes(0, 0, 0), 0);
        for (int minute = 0; minute < 24; minute++) {
            c.minute(0, 1, 0, 1);
        }
        c.minute(1, 1, 0, 1);
        c.minute(1, -1, 0, 1);
        c.minute(2, -1, 0, 1);
        Due.is("all", c.takes(0, 0, 0), 24 * 64);
        Due.is("of one minute in front", c.takes(0, 1, 0), 64);
        Due.is("of none in front", c.takes(0, 2, 0), 0);
        c.block(1, 5, 6, 0, 3, 0, 200);
        Due.is("three columns are taken before", c.takes(0, 1, 0), 64 - 24);
        Due.is("by the tree", c.takes(0, 1, 1), 24);
        c.block(2, 1, 2, 0, 8, 0, 200);
        Due.is("glass takes none", c.takes(0, 1, 2), 0);
        c.block(3, 1, 2, 0, 8, 0, 200);
        Due.is("planned takes none", c.takes(0, 1, 3), 0);
        c.build(3);
        Due.is("built takes all", c.takes(0, 1, 3), 64);
        Due.is("nothing is left", c.takes(0, 1, 0), 0);
        Due.is("nothing is left", c.takes(0, 1, 1), 0);
    }

    /** What is kept from earlier questions must not outlive what it was answered from. */
    private static void hoursFollowEachChange() {
        Due.about("HOURS, all as it is");
        SunCourt c = smallCourt();
        Due.is("hours", c.hours(0, 0), 1);
        c.minute(0, 2, 0, 1);
        Due.is("after minute", c.hours(0, 0), 2);
        c.block(1, 5, 6, 0, 1, 2, 4);
        Due.is("after block", c.hours(0, 0), 1);
        c.share(0, 0, 5);
        Due.is("after share", c.hours(0, 0), 2);
        c.part(6);
        Due.is("after part", c.hours(0, 0), 1);
        c.cut(0, 3);
        Due.is("after cut", c.hours(0, 0), 2);
        c.years(1);
        Due.is("after a year", c.hours(0, 0), 1);
        c.go(0);
        Due.is("after go", c.hours(0, 0), 2);
        c.block(3, 5, 6, 0, 1, 0, 200);
        Due.is("after a planned block", c.hours(0, 0), 2);
        Due.is("loss of all", c.loss(1, 0, 0), 2);
        Due.is("after loss", c.hours(0, 0), 2);
        c.build(1);
        Due.is("after build", c.hours(0, 0), 0);
        c.window(0, 6, 0, 1, 0, 1);
        Due.is("of a window after it", c.hours(1, 0), 2);
        c.law(0, 1);
        Due.is("after law", c.hours(1, 0), 2);
    }
}
