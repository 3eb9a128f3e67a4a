/** Each promise of the document by hand-made scenes: ordinary calls, edges, refusals and their order. */
public final class PromiseTest {
    private static final int MIN = Integer.MIN_VALUE;
    private static final int MAX = Integer.MAX_VALUE;
    private static final int TOLD_NOBODY = 1000001;
    private static final int TOLD_OTHER = 1000002;
    private static final int TOLD_STATE = 1000003;
    private static final int TOLD_BELOW = 1000004;
    private static final int TOLD_ROOM = 1000006;

    private PromiseTest() {
    }

    public static void main(String[] args) {
        newObject();
        minute();
        minuteChangesHours();
        block();
        blockRoom();
        share();
        most();
        cut();
        build();
        go();
        window();
        windowRoom();
        part();
        law();
        sun();
        light();
        lightThroughTrees();
        standsBefore();
        cellOrder();
        taker();
        takerTies();
        takes();
        hours();
        loss();
        high();
        breach();
        years();
        yearsAndTrees();
        rightByYears();
        release();
        blockOf();
        windowOf();
        count();
        Due.end();
    }

    /** A POINT at 0, 1/2, 1/2 that looks to greater x. */
    private static int smallWindow(SunCourt c) {
        return c.window(0, 0, 0, 1, 0, 1);
    }

    /** That POINT, with suns whose ways rise by 1, 1/2 and 1/50 on DAY 0. */
    private static SunCourt threeSuns() {
        SunCourt c = new SunCourt();
        c.minute(0, 1, 0, 1);
        c.minute(0, 2, 0, 1);
        c.minute(0, 50, 0, 1);
        smallWindow(c);
        return c;
    }

    private static SunCourt oneOfEachKind() {
        SunCourt c = new SunCourt();
        c.block(0, 0, 10, 0, 10, 0, 8);
        c.block(1, 20, 24, 2, 6, 2, 9);
        c.block(2, 12, 14, 0, 10, 0, 20);
        c.block(3, 30, 40, 0, 20, 0, 10);
        return c;
    }

    private static void newObject() {
        Due.about("1 new object");
        SunCourt c = new SunCourt();
        for (int what = 0; what <= 5; what++) {
            Due.is("count(" + what + ")", c.count(what), 0);
        }
        for (int what = 11; what <= 16; what++) {
            Due.is("count(" + what + ")", c.count(what), 0);
        }
        Due.is("part is 4 at first", c.part(4), 4);
        for (int day = 0; day < 8; day++) {
            Due.is("law is 0 at first", c.law(day, 0), 0);
        }
        Due.is("no block", c.blockOf(0, 0), TOLD_NOBODY);
        Due.is("no window", c.windowOf(0, 0), TOLD_NOBODY);
        smallWindow(c);
        Due.is("no minute", c.sun(0, 0, 0), -1);
        SunCourt other = new SunCourt();
        Due.is("objects share nothing", other.count(2), 0);
    }

    private static void minute() {
        Due.about("2 minute");
        SunCourt c = new SunCourt();
        Due.is("first", c.minute(0, -50, -50, 1), 0);
        Due.is("second", c.minute(0, 50, 50, 50), 1);
        Due.is("of another day", c.minute(7, 0, 0, 1), 0);
        Due.is("day -1", c.minute(-1, 0, 0, 1), -1);
        Due.is("day 8", c.minute(8, 0, 0, 1), -1);
        Due.is("day before way", c.minute(8, -51, 51, 0), -1);
        Due.is("x -51", c.minute(0, -51, 0, 1), -4);
        Due.is("y -51", c.minute(0, 0, -51, 1), -4);
        Due.is("z 0", c.minute(0, 0, 0, 0), -4);
        Due.is("x 51", c.minute(0, 51, 0, 1), -6);
        Due.is("y 51", c.minute(0, 0, 51, 1), -6);
        Due.is("z 51", c.minute(0, 0, 0, 51), -6);
        Due.is("below before above", c.minute(0, 51, 51, 0), -4);
        Due.is("least int", c.minute(MIN, MIN, MIN, MIN), -1);
        Due.is("least way", c.minute(0, MIN, 0, 1), -4);
        Due.is("greatest way", c.minute(0, MAX, MAX, MAX), -6);
        Due.is("refused ones add none", c.count(3), 3);
        for (int number = 2; number < 24; number++) {
            Due.is("minute " + number, c.minute(0, 1, 1, 1), number);
        }
        Due.is("a 25th", c.minute(0, 1, 1, 1), -6);
        Due.is("a 25th, below", c.minute(0, 1, 1, 0), -4);
        Due.is("room on another day", c.minute(1, 1, 1, 1), 0);
        Due.is("all minutes", c.count(3), 26);
    }

    private static void minuteChangesHours() {
        Due.about("2 minute, hours");
        SunCourt c = threeSuns();
        Due.is("hours", c.hours(0, 0), 3);
        c.minute(0, 5, 0, 5);
        Due.is("hours after one more", c.hours(0, 0), 4);
        c.minute(0, -5, 0, 5);
        Due.is("hours after one from behind", c.hours(0, 0), 4);
        Due.is("another day", c.hours(0, 1), 0);
    }

    private static void block() {
        Due.about("3 block");
        SunCourt c = new SunCourt();
        Due.is("all places", c.block(0, 0, 200, 0, 200, 0, 200), 0);
        Due.is("one unit", c.block(3, 199, 200, 199, 200, 199, 200), 1);
        Due.is("kind -1", c.block(-1, 0, 1, 0, 1, 0, 1), -2);
        Due.is("kind 4", c.block(4, 0, 1, 0, 1, 0, 1), -2);
        Due.is("kind before places", c.block(4, -1, 201, 5, 5, 0, 1), -2);
        Due.is("x0 -1", c.block(0, -1, 1, 0, 1, 0, 1), -4);
        Due.is("y0 -1", c.block(0, 0, 1, -1, 1, 0, 1), -4);
        Due.is("foot -1", c.block(0, 0, 1, 0, 1, -1, 1), -4);
        Due.is("x1 as x0", c.block(0, 5, 5, 0, 1, 0, 1), -4);
        Due.is("x1 under x0", c.block(0, 5, 4, 0, 1, 0, 1), -4);
        Due.is("y1 as y0", c.block(0, 0, 1, 5, 5, 0, 1), -4);
        Due.is("y1 under y0", c.block(0, 0, 1, 5, 4, 0, 1), -4);
        Due.is("top as foot", c.block(0, 0, 1, 0, 1, 5, 5), -4);
        Due.is("top under foot", c.block(0, 0, 1, 0, 1, 5, 4), -4);
        Due.is("x1 201", c.block(0, 0, 201, 0, 1, 0, 1), -6);
        Due.is("y1 201", c.block(0, 0, 1, 0, 201, 0, 1), -6);
        Due.is("top 201", c.block(0, 0, 1, 0, 1, 0, 201), -6);
        Due.is("empty above the greatest", c.block(0, 201, 201, 0, 1, 0, 1), -4);
        Due.is("below before above", c.block(0, 0, 201, 0, 201, -1, 1), -4);
        Due.is("extremes", c.block(0, MIN, MAX, MIN, MAX, MIN, MAX), -4);
        Due.is("greatest", c.block(0, 0, MAX, 0, MAX, 0, MAX), -6);
        Due.is("refused ones add none", c.count(1), 2);
        c.block(1, 0, 1, 0, 1, 3, 7);
        Due.is("most of a tree", c.blockOf(2, 3), 200);
        for (int day = 0; day < 8; day++) {
            Due.is("share of a tree", c.share(2, day, 0), 0);
        }
    }

    private static void blockRoom() {
        Due.about("3 block, room");
        SunCourt c = threeSuns();
        Due.is("hours", c.hours(0, 0), 3);
        Due.is("one before the window", c.block(0, 5, 6, 0, 1, 0, 6), 0);
        Due.is("hours then", c.hours(0, 0), 0);
        for (int number = 1; number < 40; number++) {
            Due.is("block " + number, c.block(number % 4, 0, 1, 0, 1, 0, 1), number);
        }
        Due.is("a 41st", c.block(0, 0, 1, 0, 1, 0, 1), -6);
        Due.is("a 41st, below", c.block(0, 0, 0, 0, 1, 0, 1), -4);
        c.go(3);
        Due.is("one that is gone keeps its place", c.block(0, 0, 1, 0, 1, 0, 1), -6);
        Due.is("count", c.count(1), 40);
    }

    private static void share() {
        Due.about("4 share");
        SunCourt c = oneOfEachKind();
        Due.is("first", c.share(1, 0, 4), 0);
        Due.is("then", c.share(1, 0, 8), 4);
        Due.is("least", c.share(1, 0, 0), 8);
        Due.is("another day", c.share(1, 7, 3), 0);
        Due.is("no block", c.share(4, 0, 4), -1);
        Due.is("block -1", c.share(-1, 0, 4), -1);
        Due.is("day -1", c.share(1, -1, 4), -1);
        Due.is("day 8", c.share(1, 8, 4), -1);
        Due.is("day before kind", c.share(0, 8, 9), -1);
        Due.is("a block", c.share(0, 0, 4), -2);
        Due.is("glass", c.share(2, 0, 4), -2);
        Due.is("planned", c.share(3, 0, 4), -2);
        Due.is("kind before number", c.share(0, 0, -1), -2);
        Due.is("-1", c.share(1, 0, -1), -4);
        Due.is("9", c.share(1, 0, 9), -6);
        Due.is("least int", c.share(1, 0, MIN), -4);
        Due.is("greatest int", c.share(1, 0, MAX), -6);
        Due.is("refused ones change nothing", c.share(1, 0, 5), 0);
        c.go(1);
        Due.is("of a gone one", c.share(1, 0, 6), 5);
        SunCourt d = threeSuns();
        d.block(1, 5, 6, 0, 1, 0, 6);
        Due.is("hours", d.hours(0, 0), 0);
        d.share(0, 0, 4);
        Due.is("hours by share", d.hours(0, 0), 3);
        d.share(0, 0, 3);
        Due.is("hours by less", d.hours(0, 0), 0);
        d.share(0, 1, 8);
        Due.is("share of another day", d.hours(0, 0), 0);
    }

    private static void most() {
        Due.about("5 most");
        SunCourt c = oneOfEachKind();
        Due.is("first", c.most(1, 12), 200);
        Due.is("then", c.most(1, 200), 12);
        Due.is("its top", c.most(1, 9), 200);
        Due.is("under its top", c.most(1, 8), -4);
        Due.is("201", c.most(1, 201), -6);
        Due.is("no block", c.most(4, 8), -1);
        Due.is("block -1", c.most(-1, 8), -1);
        Due.is("a block", c.most(0, 7), -2);
        Due.is("glass", c.most(2, 201), -2);
        Due.is("planned", c.most(3, 50), -2);
        Due.is("extremes", c.most(1, MIN), -4);
        Due.is("greatest", c.most(1, MAX), -6);
        Due.is("kept", c.blockOf(1, 3), 9);
        c.years(3);
        Due.is("no growth above it", c.blockOf(1, 2), 9);
        c.most(1, 11);
        c.years(3);
        Due.is("growth up to it", c.blockOf(1, 2), 11);
        c.go(1);
        Due.is("of a gone one", c.most(1, 20), 11);
    }

    private static void cut() {
        Due.about("6 cut");
        SunCourt c = oneOfEachKind();
        Due.is("above its top", c.cut(1, 10), -6);
        Due.is("its top", c.cut(1, 9), 9);
        Due.is("lower", c.cut(1, 3), 9);
        Due.is("top", c.blockOf(1, 2), 3);
        Due.is("what it was", c.cut(1, 4), -6);
        Due.is("its foot", c.cut(1, 2), -4);
        Due.is("again", c.cut(1, 3), 3);
        Due.is("no block", c.cut(4, 3), -1);
        Due.is("block -1", c.cut(-1, 3), -1);
        Due.is("a block", c.cut(0, 3), -2);
        Due.is("glass", c.cut(2, 0), -2);
        Due.is("planned", c.cut(3, 3), -2);
        Due.is("extremes", c.cut(1, MIN), -4);
        Due.is("greatest", c.cut(1, MAX), -6);
        c.years(1);
        Due.is("it grows again", c.blockOf(1, 2), 4);
        c.go(0);
        Due.is("kind before state", c.cut(0, 3), -2);
        c.go(1);
        Due.is("gone", c.cut(1, 3), -3);
        Due.is("state before number", c.cut(1, 0), -3);
        Due.is("state before room", c.cut(1, 201), -3);
        SunCourt d = threeSuns();
        d.block(1, 5, 6, 0, 1, 0, 6);
        Due.is("hours", d.hours(0, 0), 0);
        d.cut(0, 5);
        Due.is("hours after cut", d.hours(0, 0), 1);
        d.cut(0, 3);
        Due.is("hours after more", d.hours(0, 0), 2);
    }

    private static void build() {
        Due.about("7 build");
        SunCourt c = oneOfEachKind();
        Due.is("not there", c.blockOf(3, 4), 0);
        Due.is("built", c.build(3), 1);
        Due.is("there", c.blockOf(3, 4), 1);
        Due.is("kind stays", c.blockOf(3, 0), 3);
        Due.is("again", c.build(3), -3);
        Due.is("a block", c.build(0), -2);
        Due.is("a tree", c.build(1), -2);
        Due.is("glass", c.build(2), -2);
        Due.is("no block", c.build(4), -1);
        Due.is("block -1", c.build(-1), -1);
        Due.is("least int", c.build(MIN), -1);
        Due.is("greatest int", c.build(MAX), -1);
        c.go(0);
        Due.is("kind before state", c.build(0), -2);
        c.go(3);
        Due.is("built and gone", c.build(3), -3);
        c.block(3, 0, 1, 0, 1, 0, 1);
        c.go(4);
        Due.is("gone", c.build(4), -3);
        Due.is("still not there", c.blockOf(4, 4), 0);
        SunCourt d = threeSuns();
        d.block(3, 5, 6, 0, 1, 0, 6);
        Due.is("hours", d.hours(0, 0), 3);
        Due.is("light", d.light(0, 0, 0, 0), 4096);
        Due.is("taker", d.taker(0, 0, 0, 0), -9);
        d.build(0);
        Due.is("hours then", d.hours(0, 0), 0);
        Due.is("light then", d.light(0, 0, 0, 0), 0);
        Due.is("taker then", d.taker(0, 0, 0, 0), 0);
    }

    private static void go() {
        Due.about("8 go");
        SunCourt c = oneOfEachKind();
        Due.is("no block", c.go(4), -1);
        Due.is("block -1", c.go(-1), -1);
        Due.is("greatest int", c.go(MAX), -1);
        c.block(3, 0, 1, 0, 1, 0, 1);
        c.build(4);
        for (int block = 0; block < 5; block++) {
            Due.is("go " + block, c.go(block), 1);
            Due.is("gone " + block, c.blockOf(block, 5), 1);
            Due.is("not there " + block, c.blockOf(block, 4), 0);
            Due.is("again " + block, c.go(block), -3);
        }
        Due.is("numbers stay", c.count(1), 5);
        SunCourt d = threeSuns();
        d.block(0, 5, 6, 0, 1, 0, 6);
        d.block(1, 7, 8, 0, 1, 0, 10);
        Due.is("taker", d.taker(0, 0, 0, 0), 0);
        Due.is("hours", d.hours(0, 0), 0);
        d.go(0);
        Due.is("taker then", d.taker(0, 0, 0, 0), 1);
        Due.is("hours with the tree", d.hours(0, 0), 0);
        d.go(1);
        Due.is("taker at last", d.taker(0, 0, 0, 0), -9);
        Due.is("hours at last", d.hours(0, 0), 3);
        Due.is("takes of a gone one", d.takes(0, 0, 1), 0);
    }

    private static void window() {
        Due.about("9 window");
        SunCourt c = new SunCourt();
        Due.is("first", c.window(0, 0, 0, 8, 0, 8), 0);
        Due.is("second", c.window(3, 200, 136, 200, 199, 200), 1);
        Due.is("side -1", c.window(-1, 0, 0, 1, 0, 1), -2);
        Due.is("side 4", c.window(4, 0, 0, 1, 0, 1), -2);
        Due.is("side before places", c.window(4, -1, 0, 0, 0, 201), -2);
        Due.is("at -1", c.window(0, -1, 0, 1, 0, 1), -4);
        Due.is("u0 -1", c.window(0, 0, -1, 1, 0, 1), -4);
        Due.is("z0 -1", c.window(0, 0, 0, 1, -1, 1), -4);
        Due.is("u1 as u0", c.window(0, 0, 3, 3, 0, 1), -4);
        Due.is("u1 under u0", c.window(0, 0, 3, 2, 0, 1), -4);
        Due.is("z1 as z0", c.window(0, 0, 0, 1, 3, 3), -4);
        Due.is("z1 under z0", c.window(0, 0, 0, 1, 3, 2), -4);
        Due.is("at 201", c.window(0, 201, 0, 1, 0, 1), -6);
        Due.is("u1 201", c.window(0, 0, 200, 201, 0, 1), -6);
        Due.is("z1 201", c.window(0, 0, 0, 1, 200, 201), -6);
        Due.is("65 cells", c.window(0, 0, 0, 65, 0, 1), -6);
        Due.is("72 cells", c.window(0, 0, 0, 9, 0, 8), -6);
        Due.is("below before above", c.window(0, 201, 0, 1, 1, 1), -4);
        Due.is("extremes", c.window(0, MIN, MIN, MAX, MIN, MAX), -4);
        Due.is("cells past all numbers", c.window(0, 0, 0, 65536, 0, 65536), -6);
        Due.is("greatest", c.window(0, MAX, 0, MAX, 0, MAX), -6);
        Due.is("refused ones add none", c.count(2), 2);
        Due.is("right", c.windowOf(0, 2), 0);
        Due.is("cells", c.windowOf(0, 1), 64);
        Due.is("cells in a row", c.windowOf(1, 1), 64);
    }

    private static void windowRoom() {
        Due.about("9 window, room");
        SunCourt c = new SunCourt();
        for (int number = 0; number < 20; number++) {
            Due.is("window " + number, c.window(number % 4, number, 0, 1, 0, 1), number);
        }
        Due.is("a 21st", c.window(0, 0, 0, 1, 0, 1), -6);
        Due.is("a 21st, below", c.window(0, 0, 0, 0, 0, 1), -4);
        Due.is("count", c.count(2), 20);
        c.years(2);
        Due.is("right of the last", c.windowOf(19, 2), 2);
        SunCourt d = new SunCourt();
        d.years(5);
        smallWindow(d);
        Due.is("right of a late one", d.windowOf(0, 2), 0);
    }

    private static void part() {
        Due.about("10 part");
        SunCourt c = new SunCourt();
        Due.is("first", c.part(1), 4);
        Due.is("then", c.part(8), 1);
        Due.is("0", c.part(0), -4);
        Due.is("-1", c.part(-1), -4);
        Due.is("9", c.part(9), -6);
        Due.is("least int", c.part(MIN), -4);
        Due.is("greatest int", c.part(MAX), -6);
        Due.is("refused ones change nothing", c.part(4), 8);
        SunCourt d = new SunCourt();
        d.minute(0, 1, 0, 1);
        d.window(0, 0, 0, 2, 0, 1);
        d.block(0, 5, 6, 0, 1, 0, 20);
        Due.is("half is enough for 4", d.hours(0, 0), 1);
        d.part(5);
        Due.is("half is too little for 5", d.hours(0, 0), 0);
        d.part(1);
        Due.is("half is enough for 1", d.hours(0, 0), 1);
        d.go(0);
        d.part(8);
        Due.is("all is enough for 8", d.hours(0, 0), 1);
    }

    private static void law() {
        Due.about("11 law");
        SunCourt c = threeSuns();
        Due.is("first", c.law(0, 24), 0);
        Due.is("falls", c.windowOf(0, 5), 0);
        Due.is("then", c.law(0, 3), 24);
        Due.is("as many hours", c.windowOf(0, 5), -9);
        Due.is("one more", c.law(0, 4), 3);
        Due.is("falls again", c.windowOf(0, 3), 0);
        Due.is("none", c.law(0, 0), 4);
        Due.is("lawful", c.windowOf(0, 3), 1);
        Due.is("another day", c.law(7, 1), 0);
        Due.is("a day without minutes", c.windowOf(0, 5), 7);
        Due.is("day -1", c.law(-1, 1), -1);
        Due.is("day 8", c.law(8, -1), -1);
        Due.is("-1", c.law(0, -1), -4);
        Due.is("25", c.law(0, 25), -6);
        Due.is("least int", c.law(0, MIN), -4);
        Due.is("greatest int", c.law(0, MAX), -6);
        Due.is("refused ones change nothing", c.law(0, 0), 0);
    }

    private static void sun() {
        Due.about("12 sun");
        SunCourt c = new SunCourt();
        c.minute(0, 1, 0, 1);
        c.minute(0, -1, 0, 1);
        c.minute(0, 0, 1, 1);
        c.minute(0, 0, -1, 1);
        c.minute(0, 0, 0, 1);
        c.minute(1, 1, -1, 1);
        for (int side = 0; side < 4; side++) {
            c.window(side, 100, 100, 102, 0, 3);
            for (int minute = 0; minute < 5; minute++) {
                Due.is("side " + side + ", minute " + minute, c.sun(side, 0, minute), side == minute ? 6 * 4096 : 0);
            }
        }
        Due.is("sides of a corner sun", c.sun(0, 1, 0), 6 * 4096);
        Due.is("sides of a corner sun", c.sun(1, 1, 0), 0);
        Due.is("sides of a corner sun", c.sun(2, 1, 0), 0);
        Due.is("sides of a corner sun", c.sun(3, 1, 0), 6 * 4096);
        c.block(0, 104, 106, 101, 110, 0, 5);
        Due.is("one of six is shaded", c.sun(0, 0, 0), 5 * 4096);
        c.block(1, 104, 106, 90, 101, 0, 200);
        c.share(1, 0, 3);
        Due.is("a tree before three", c.sun(0, 0, 0), 2 * 4096 + 3 * 1536);
        c.block(3, 102, 103, 0, 200, 0, 200);
        Due.is("a planned one is not there", c.sun(0, 0, 0), 2 * 4096 + 3 * 1536);
        Due.is("no window", c.sun(4, 0, 0), -1);
        Due.is("window -1", c.sun(-1, 0, 0), -1);
        Due.is("day 8", c.sun(0, 8, 0), -1);
        Due.is("day -1", c.sun(0, -1, 0), -1);
        Due.is("no minute", c.sun(0, 0, 5), -1);
        Due.is("minute of another day", c.sun(0, 1, 1), -1);
        Due.is("minute -1", c.sun(0, 0, -1), -1);
        Due.is("extremes", c.sun(MAX, MAX, MAX), -1);
        Due.is("extremes", c.sun(MIN, MIN, MIN), -1);
    }

    private static void light() {
        Due.about("13 light");
        SunCourt c = threeSuns();
        c.minute(0, -1, 0, 1);
        c.minute(0, 0, 5, 1);
        Due.is("free", c.light(0, 0, 0, 0), 4096);
        Due.is("from behind", c.light(0, 0, 0, 3), 0);
        Due.is("along the wall", c.light(0, 0, 0, 4), 0);
        c.block(2, 1, 50, 0, 1, 0, 200);
        Due.is("glass", c.light(0, 0, 0, 0), 4096);
        c.block(3, 1, 50, 0, 1, 0, 200);
        Due.is("planned", c.light(0, 0, 0, 0), 4096);
        c.block(0, 5, 6, 0, 1, 0, 3);
        Due.is("over it", c.light(0, 0, 0, 0), 4096);
        Due.is("over its edge", c.light(0, 0, 0, 1), 4096);
        Due.is("into it", c.light(0, 0, 0, 2), 0);
        Due.is("cell -1", c.light(0, -1, 0, 0), -1);
        Due.is("no cell", c.light(0, 1, 0, 0), -1);
        Due.is("no window", c.light(1, 0, 0, 0), -1);
        Due.is("window -1", c.light(-1, 0, 0, 0), -1);
        Due.is("day 8", c.light(0, 0, 8, 0), -1);
        Due.is("no minute", c.light(0, 0, 0, 5), -1);
        Due.is("minute -1", c.light(0, 0, 0, -1), -1);
        Due.is("extremes", c.light(MAX, MAX, MAX, MAX), -1);
        Due.is("extremes", c.light(0, MIN, 0, MIN), -1);
    }

    private static void lightThroughTrees() {
        Due.about("13 light, trees");
        SunCourt c = threeSuns();
        for (int tree = 0; tree < 6; tree++) {
            c.block(1, 10 + tree, 11 + tree, 0, 1, 0, 200);
            c.share(tree, 0, 8);
        }
        Due.is("all through", c.light(0, 0, 0, 0), 4096);
        c.share(0, 0, 3);
        Due.is("one", c.light(0, 0, 0, 0), 1536);
        c.share(1, 0, 5);
        Due.is("two", c.light(0, 0, 0, 0), 960);
        setShares(c, new int[] {1, 1, 1, 5, 5, 3});
        Due.is("cut at each tree", c.light(0, 0, 0, 0), 1);
        setShares(c, new int[] {1, 1, 1, 3, 5, 5});
        Due.is("cut in another order", c.light(0, 0, 0, 0), 0);
        setShares(c, new int[] {8, 8, 0, 8, 8, 8});
        Due.is("none through", c.light(0, 0, 0, 0), 0);
        setShares(c, new int[] {8, 8, 4, 8, 8, 8});
        c.block(0, 30, 31, 0, 1, 0, 200);
        Due.is("a block behind trees", c.light(0, 0, 0, 0), 0);
        c.go(6);
        Due.is("trees alone", c.light(0, 0, 0, 0), 2048);
        c.go(2);
        Due.is("a gone tree", c.light(0, 0, 0, 0), 4096);
    }

    private static void setShares(SunCourt c, int[] shares) {
        for (int tree = 0; tree < shares.length; tree++) {
            c.share(tree, 0, shares[tree]);
        }
    }

    /** Light of the small window's POINT under a way, with a block there. */
    private static int lightPast(int[] way, int[] box) {
        SunCourt c = new SunCourt();
        c.minute(0, way[0], way[1], way[2]);
        smallWindow(c);
        c.block(0, box[0], box[1], box[2], box[3], box[4], box[5]);
        return c.light(0, 0, 0, 0);
    }

    private static void standsBefore() {
        Due.about("13 light, what stands before");
        int[] half = {2, 0, 1};
        int[] corner = {2, 1, 1};
        Due.is("its edge only", lightPast(half, new int[] {5, 6, 0, 1, 0, 3}), 4096);
        Due.is("a little within", lightPast(half, new int[] {5, 6, 0, 1, 0, 4}), 0);
        Due.is("its far edge only", lightPast(half, new int[] {4, 5, 0, 1, 3, 9}), 4096);
        Due.is("through its foot", lightPast(half, new int[] {4, 6, 0, 1, 3, 9}), 0);
        Due.is("under its foot", lightPast(half, new int[] {4, 6, 0, 1, 4, 9}), 4096);
        Due.is("beside it", lightPast(half, new int[] {5, 6, 1, 2, 0, 200}), 4096);
        Due.is("its corner only", lightPast(corner, new int[] {5, 6, 0, 3, 0, 9}), 4096);
        Due.is("past its corner", lightPast(corner, new int[] {5, 6, 0, 4, 0, 4}), 0);
        Due.is("from within", lightPast(half, new int[] {0, 1, 0, 1, 0, 1}), 0);
        SunCourt c = new SunCourt();
        c.minute(0, 1, 0, 1);
        c.minute(0, -1, 0, 1);
        c.minute(0, 1, -1, 1);
        c.window(0, 10, 2, 3, 1, 2);
        c.window(1, 10, 2, 3, 1, 2);
        c.block(0, 0, 10, 0, 10, 0, 8);
        Due.is("the wall's own block", c.light(0, 0, 0, 0), 4096);
        Due.is("into the wall's own block", c.light(1, 0, 0, 1), 0);
        c.block(0, 4, 20, 0, 10, 0, 8);
        Due.is("within a block", c.light(0, 0, 0, 0), 0);
        c.go(1);
        c.block(0, 10, 11, 0, 1, 0, 200);
        Due.is("y falls along the way, not yet", c.light(0, 0, 0, 2), 4096);
        c.block(0, 11, 12, 0, 1, 0, 200);
        Due.is("y falls along the way", c.light(0, 0, 0, 2), 0);
    }

    private static void cellOrder() {
        Due.about("13 light, cells");
        SunCourt c = new SunCourt();
        c.minute(0, 1, 0, 1);
        c.minute(0, 0, 1, 1);
        c.window(0, 0, 4, 7, 2, 4);
        c.window(2, 0, 4, 7, 2, 4);
        // Before the POINT at u 5 1/2, z 2 1/2 alone: CELL 1 of 6.
        c.block(0, 1, 2, 5, 6, 0, 4);
        c.block(0, 5, 6, 1, 2, 0, 4);
        for (int cell = 0; cell < 6; cell++) {
            Due.is("side 0, cell " + cell, c.light(0, cell, 0, 0), cell == 1 ? 0 : 4096);
            Due.is("side 2, cell " + cell, c.light(1, cell, 0, 1), cell == 1 ? 0 : 4096);
        }
        c.block(0, 1, 2, 6, 7, 4, 9);
        Due.is("the last of the second row", c.light(0, 5, 0, 0), 0);
        Due.is("the last of the first row", c.light(0, 2, 0, 0), 0);
        Due.is("no cell 6", c.light(0, 6, 0, 0), -1);
    }

    private static void taker() {
        Due.about("14 taker");
        SunCourt c = threeSuns();
        c.minute(0, -1, 0, 1);
        Due.is("none", c.taker(0, 0, 0, 0), -9);
        Due.is("from behind", c.taker(0, 0, 0, 3), -8);
        c.block(0, 20, 21, 0, 1, 0, 200);
        Due.is("one", c.taker(0, 0, 0, 0), 0);
        c.block(1, 10, 11, 0, 1, 0, 200);
        Due.is("a nearer tree", c.taker(0, 0, 0, 0), 1);
        c.share(1, 0, 7);
        Due.is("a nearer tree of 7", c.taker(0, 0, 0, 0), 1);
        c.share(1, 0, 8);
        Due.is("a tree of 8 is aside", c.taker(0, 0, 0, 0), 0);
        c.block(2, 5, 6, 0, 1, 0, 200);
        Due.is("glass is aside", c.taker(0, 0, 0, 0), 0);
        c.block(3, 7, 8, 0, 1, 0, 200);
        Due.is("planned is not there", c.taker(0, 0, 0, 0), 0);
        c.build(3);
        Due.is("built is there", c.taker(0, 0, 0, 0), 3);
        c.go(3);
        Due.is("gone is not there", c.taker(0, 0, 0, 0), 0);
        Due.is("from behind all the same", c.taker(0, 0, 0, 3), -8);
        Due.is("no window", c.taker(1, 0, 0, 0), TOLD_NOBODY);
        Due.is("window -1", c.taker(-1, 0, 0, 0), TOLD_NOBODY);
        Due.is("no cell", c.taker(0, 1, 0, 0), TOLD_NOBODY);
        Due.is("cell -1", c.taker(0, -1, 0, 0), TOLD_NOBODY);
        Due.is("day 8", c.taker(0, 0, 8, 0), TOLD_NOBODY);
        Due.is("no minute", c.taker(0, 0, 0, 4), TOLD_NOBODY);
        Due.is("extremes", c.taker(MIN, MAX, MIN, MAX), TOLD_NOBODY);
        Due.is("counted as -1", c.count(11), 7);
    }

    private static void takerTies() {
        Due.about("14 taker, ties");
        SunCourt c = threeSuns();
        c.block(0, 10, 12, 0, 1, 0, 200);
        c.block(0, 10, 11, 0, 1, 0, 200);
        Due.is("the least number", c.taker(0, 0, 0, 0), 0);
        SunCourt d = new SunCourt();
        d.minute(0, 1, 0, 1);
        d.window(0, 10, 0, 1, 0, 1);
        d.block(0, 5, 20, 0, 1, 0, 8);
        d.block(0, 0, 20, 0, 1, 0, 8);
        Due.is("within both", d.taker(0, 0, 0, 0), 0);
        SunCourt e = new SunCourt();
        e.minute(0, 3, 0, 7);
        smallWindow(e);
        e.block(0, 5, 6, 0, 1, 0, 200);
        e.block(0, 0, 10, 0, 1, 12, 20);
        Due.is("23/14 is before 5/3", e.taker(0, 0, 0, 0), 1);
        SunCourt f = new SunCourt();
        f.minute(0, 2, 0, 1);
        smallWindow(f);
        f.block(0, 0, 10, 0, 1, 3, 20);
        f.block(0, 5, 6, 0, 1, 0, 200);
        Due.is("the same time by foot and by side", f.taker(0, 0, 0, 0), 0);
    }

    private static void takes() {
        Due.about("15 takes");
        SunCourt c = new SunCourt();
        c.minute(0, 1, 0, 1);
        c.minute(0, 2, 0, 1);
        c.minute(0, -1, 0, 1);
        c.minute(1, 1, 0, 1);
        c.window(0, 0, 0, 2, 0, 2);
        c.block(0, 4, 6, 0, 1, 0, 200);
        c.block(1, 2, 3, 0, 2, 0, 3);
        // MINUTE 0: the tree is met from z 1/2 alone (z 2 1/2 at x 2), MINUTE 1 from both rows.
        Due.is("the block", c.takes(0, 0, 0), 1);
        Due.is("the tree", c.takes(0, 0, 1), 2 + 4);
        Due.is("another day", c.takes(0, 1, 1), 2);
        Due.is("a day without minutes", c.takes(0, 2, 1), 0);
        c.share(1, 0, 8);
        Due.is("the tree aside", c.takes(0, 0, 1), 0);
        Due.is("the block then", c.takes(0, 0, 0), 4);
        Due.is("another day's share", c.takes(0, 1, 1), 2);
        c.go(0);
        Due.is("gone", c.takes(0, 0, 0), 0);
        c.block(3, 1, 2, 0, 2, 0, 200);
        Due.is("planned", c.takes(0, 0, 2), 0);
        Due.is("no window", c.takes(1, 0, 0), -1);
        Due.is("window -1", c.takes(-1, 0, 0), -1);
        Due.is("day 8", c.takes(0, 8, 0), -1);
        Due.is("day -1", c.takes(0, -1, 0), -1);
        Due.is("no block", c.takes(0, 0, 3), -1);
        Due.is("block -9", c.takes(0, 0, -9), -1);
        Due.is("block -8", c.takes(0, 0, -8), -1);
        Due.is("extremes", c.takes(MAX, MIN, MAX), -1);
    }

    private static void hours() {
        Due.about("16 hours");
        SunCourt c = threeSuns();
        c.minute(0, -1, 0, 1);
        Due.is("all in front", c.hours(0, 0), 3);
        Due.is("a day without minutes", c.hours(0, 1), 0);
        c.block(0, 5, 6, 0, 1, 2, 5);
        Due.is("one shaded", c.hours(0, 0), 2);
        c.block(1, 5, 6, 0, 1, 0, 2);
        Due.is("two shaded", c.hours(0, 0), 1);
        c.share(1, 0, 4);
        Due.is("half through is lit", c.hours(0, 0), 2);
        c.part(5);
        Due.is("half through is not lit at 5", c.hours(0, 0), 1);
        Due.is("no window", c.hours(1, 0), -1);
        Due.is("window -1", c.hours(-1, 0), -1);
        Due.is("day 8", c.hours(0, 8), -1);
        Due.is("day -1", c.hours(0, -1), -1);
        Due.is("extremes", c.hours(MAX, MIN), -1);
        SunCourt d = new SunCourt();
        d.window(2, 0, 0, 8, 0, 8);
        for (int minute = 0; minute < 24; minute++) {
            d.minute(3, 0, 1, 1 + minute);
        }
        Due.is("24", d.hours(0, 3), 24);
        d.law(3, 24);
        Due.is("lawful with 24", d.windowOf(0, 3), 1);
    }

    private static void loss() {
        Due.about("17 loss");
        SunCourt c = threeSuns();
        c.block(3, 10, 20, 0, 3, 2, 5);
        c.block(3, 10, 20, 0, 3, 2, 6);
        c.block(3, 10, 20, 0, 3, 2, 11);
        c.block(3, 10, 20, 0, 3, 0, 11);
        Due.is("none", c.loss(0, 0, 0), 0);
        Due.is("one", c.loss(1, 0, 0), 1);
        Due.is("two", c.loss(2, 0, 0), 2);
        Due.is("all", c.loss(3, 0, 0), 3);
        Due.is("another day", c.loss(3, 0, 1), 0);
        Due.is("nothing has changed", c.hours(0, 0), 3);
        Due.is("nor is it there", c.blockOf(3, 4), 0);
        c.block(0, 30, 31, 0, 1, 0, 2);
        Due.is("hours less", c.hours(0, 0), 2);
        Due.is("what was lost is not lost again", c.loss(3, 0, 0), 2);
        Due.is("a block", c.loss(4, 0, 0), TOLD_OTHER);
        c.build(3);
        Due.is("built", c.loss(3, 0, 0), TOLD_STATE);
        c.go(2);
        Due.is("gone", c.loss(2, 0, 0), TOLD_STATE);
        c.go(4);
        Due.is("kind before state", c.loss(4, 0, 0), TOLD_OTHER);
        Due.is("no block", c.loss(5, 0, 0), TOLD_NOBODY);
        Due.is("block -1", c.loss(-1, 0, 0), TOLD_NOBODY);
        Due.is("no window", c.loss(0, 1, 0), TOLD_NOBODY);
        Due.is("window -1", c.loss(0, -1, 0), TOLD_NOBODY);
        Due.is("day 8", c.loss(0, 0, 8), TOLD_NOBODY);
        Due.is("day -1", c.loss(0, 0, -1), TOLD_NOBODY);
        Due.is("window before kind", c.loss(4, 1, 0), TOLD_NOBODY);
        Due.is("day before state", c.loss(3, 0, 8), TOLD_NOBODY);
        Due.is("extremes", c.loss(MAX, MIN, MAX), TOLD_NOBODY);
    }

    /** The three suns' window, KEPT under a LAW of that many HOURS, and a PLANNED BLOCK. */
    private static SunCourt keptUnder(int least, int foot) {
        SunCourt c = threeSuns();
        c.law(0, least);
        c.years(3);
        c.block(3, 10, 20, 0, 3, foot, foot + 1);
        return c;
    }

    private static void high() {
        Due.about("18 high");
        Due.is("law 3", keptUnder(3, 2).high(0), 5);
        Due.is("law 2", keptUnder(2, 2).high(0), 10);
        Due.is("law 1", keptUnder(1, 2).high(0), 200);
        Due.is("law 0", keptUnder(0, 0).high(0), 200);
        Due.is("law 3 from the ground", keptUnder(3, 0).high(0), 0);
        Due.is("law 3, no top at all", keptUnder(3, 8).high(0), 8);
        Due.is("law 2, no matter", keptUnder(2, 199).high(0), 200);
        SunCourt c = keptUnder(2, 2);
        c.release(0);
        Due.is("released", c.high(0), 200);
        SunCourt d = threeSuns();
        d.law(0, 2);
        d.years(2);
        d.block(3, 10, 20, 0, 3, 2, 3);
        Due.is("not yet kept", d.high(0), 200);
        d.years(1);
        Due.is("kept", d.high(0), 10);
        d.block(0, 30, 31, 0, 1, 0, 2);
        Due.is("one hour less without it", d.high(0), 5);
        d.law(0, 3);
        Due.is("kept, but not lawful without it", d.high(0), 200);
        d.law(0, 0);
        Due.is("nor anything wanted", d.high(0), 200);
        Due.is("its top stays", d.blockOf(0, 2), 3);
        Due.is("a block", d.high(1), -2);
        d.go(1);
        Due.is("kind before state", d.high(1), -2);
        d.build(0);
        Due.is("built", d.high(0), -3);
        d.block(3, 10, 20, 0, 3, 2, 3);
        d.go(2);
        Due.is("gone", d.high(2), -3);
        Due.is("no block", d.high(3), -1);
        Due.is("block -1", d.high(-1), -1);
        Due.is("greatest int", d.high(MAX), -1);
        Due.is("least int", d.high(MIN), -1);
    }

    private static void breach() {
        Due.about("19 breach");
        SunCourt c = new SunCourt();
        c.window(1, 0, 0, 1, 0, 1);
        smallWindow(c);
        smallWindow(c);
        for (int day = 2; day < 5; day++) {
            c.minute(day, 1, 0, 1);
            c.minute(day, -1, 0, 1);
        }
        c.law(3, 1);
        c.law(4, 1);
        c.years(3);
        c.block(3, 10, 20, 0, 3, 2, 5);
        Due.is("low", c.breach(0, 10), -9);
        Due.is("first window and day", c.breach(0, 11), 8 * 1 + 3);
        Due.is("at most", c.breach(0, 200), 8 * 1 + 3);
        c.law(3, 0);
        Due.is("another day", c.breach(0, 200), 8 * 1 + 4);
        c.release(1);
        Due.is("another window", c.breach(0, 200), 8 * 2 + 4);
        c.law(0, 1);
        Due.is("none is lawful without it", c.breach(0, 200), -9);
        c.law(0, 0);
        c.release(2);
        Due.is("none is kept", c.breach(0, 200), -9);
        Due.is("nothing changes", c.blockOf(0, 2), 5);
        Due.is("its foot", c.breach(0, 2), TOLD_BELOW);
        Due.is("above its foot", c.breach(0, 3), -9);
        Due.is("201", c.breach(0, 201), TOLD_ROOM);
        Due.is("least int", c.breach(0, MIN), TOLD_BELOW);
        Due.is("greatest int", c.breach(0, MAX), TOLD_ROOM);
        Due.is("no block", c.breach(1, 0), TOLD_NOBODY);
        Due.is("block -1", c.breach(-1, 201), TOLD_NOBODY);
        c.block(1, 0, 1, 0, 1, 0, 1);
        c.go(1);
        Due.is("kind before all", c.breach(1, 0), TOLD_OTHER);
        c.build(0);
        Due.is("built before top", c.breach(0, 0), TOLD_STATE);
        c.block(3, 10, 20, 0, 3, 2, 5);
        c.go(2);
        Due.is("gone before top", c.breach(2, 201), TOLD_STATE);
    }

    private static void years() {
        Due.about("20 years");
        SunCourt c = new SunCourt();
        Due.is("one", c.years(1), 1);
        Due.is("more", c.years(9), 10);
        Due.is("0", c.years(0), -4);
        Due.is("-1", c.years(-1), -4);
        Due.is("too many", c.years(51), -6);
        Due.is("greatest int", c.years(MAX), -6);
        Due.is("least int", c.years(MIN), -4);
        Due.is("year", c.count(0), 10);
        Due.is("up to 60", c.years(50), 60);
        Due.is("no more", c.years(1), -6);
        Due.is("0 at the end", c.years(0), -4);
        Due.is("60 at once", new SunCourt().years(60), 60);
        Due.is("61 at once", new SunCourt().years(61), -6);
    }

    private static void yearsAndTrees() {
        Due.about("20 years, trees");
        SunCourt c = oneOfEachKind();
        c.block(1, 0, 1, 0, 1, 0, 199);
        c.block(1, 0, 1, 0, 1, 0, 5);
        c.most(5, 6);
        c.block(1, 0, 1, 0, 1, 0, 5);
        c.go(6);
        c.years(1);
        int[] after = {8, 10, 20, 10, 200, 6, 6};
        for (int block = 0; block < after.length; block++) {
            Due.is("top of " + block, c.blockOf(block, 2), after[block]);
        }
        c.years(4);
        int[] later = {8, 14, 20, 10, 200, 6, 10};
        for (int block = 0; block < later.length; block++) {
            Due.is("later top of " + block, c.blockOf(block, 2), later[block]);
        }
        c.build(3);
        c.years(1);
        Due.is("a built one does not grow", c.blockOf(3, 2), 10);
        SunCourt d = threeSuns();
        d.block(1, 5, 6, 0, 1, 2, 3);
        Due.is("hours", d.hours(0, 0), 3);
        d.years(1);
        Due.is("hours after one year", d.hours(0, 0), 2);
        d.years(1);
        Due.is("hours after two", d.hours(0, 0), 2);
        d.years(1);
        Due.is("hours after three", d.hours(0, 0), 1);
    }

    private static void rightByYears() {
        Due.about("20 years, right");
        SunCourt c = threeSuns();
        c.law(0, 3);
        c.block(1, 5, 6, 0, 1, 2, 3);
        c.years(1);
        Due.is("the tree grows first", c.windowOf(0, 2), 0);
        c.cut(0, 3);
        c.most(0, 3);
        c.years(2);
        Due.is("two years", c.windowOf(0, 2), 2);
        Due.is("not yet kept", c.windowOf(0, 4), 0);
        c.years(1);
        Due.is("three years", c.windowOf(0, 2), 3);
        Due.is("kept", c.windowOf(0, 4), 1);
        c.law(0, 4);
        Due.is("kept till a year passes", c.windowOf(0, 4), 1);
        Due.is("not lawful now", c.windowOf(0, 3), 0);
        c.years(1);
        Due.is("from the beginning", c.windowOf(0, 2), 0);
        Due.is("kept no more", c.windowOf(0, 4), 0);
        c.law(0, 3);
        c.years(4);
        Due.is("four years", c.windowOf(0, 2), 4);
        c.most(0, 7);
        c.years(5);
        Due.is("lost on the way", c.windowOf(0, 2), 0);
    }

    private static void release() {
        Due.about("21 release");
        SunCourt c = threeSuns();
        smallWindow(c);
        Due.is("no window", c.release(2), false);
        Due.is("window -1", c.release(-1), false);
        Due.is("least int", c.release(MIN), false);
        Due.is("greatest int", c.release(MAX), false);
        c.years(3);
        Due.is("kept", c.count(5), 2);
        Due.is("released", c.release(0), true);
        Due.is("again", c.release(0), false);
        Due.is("not kept", c.windowOf(0, 4), 0);
        Due.is("the other", c.windowOf(1, 4), 1);
        c.years(5);
        Due.is("for good", c.windowOf(0, 4), 0);
        Due.is("right all the same", c.windowOf(0, 2), 8);
        Due.is("kept ones", c.count(5), 1);
        for (int what = 11; what <= 16; what++) {
            Due.is("no refusal by a number", c.count(what), 0);
        }
        SunCourt d = threeSuns();
        Due.is("before it is kept", d.release(0), true);
        d.years(3);
        Due.is("never kept", d.windowOf(0, 4), 0);
    }

    private static void blockOf() {
        Due.about("22 blockOf");
        SunCourt c = oneOfEachKind();
        c.most(1, 50);
        int[][] due = {{0, 0, 8, -9, 1, 0}, {1, 2, 9, 50, 1, 0}, {2, 0, 20, -9, 1, 0}, {3, 0, 10, -9, 0, 0}};
        for (int block = 0; block < 4; block++) {
            for (int what = 0; what < 6; what++) {
                Due.is("of " + block + ": " + what, c.blockOf(block, what), due[block][what]);
            }
        }
        c.go(1);
        int[] gone = {1, 2, 9, 50, 0, 1};
        for (int what = 0; what < 6; what++) {
            Due.is("of a gone tree: " + what, c.blockOf(1, what), gone[what]);
        }
        Due.is("what -1", c.blockOf(0, -1), TOLD_OTHER);
        Due.is("what 6", c.blockOf(0, 6), TOLD_OTHER);
        Due.is("no block", c.blockOf(4, 0), TOLD_NOBODY);
        Due.is("block before what", c.blockOf(-1, 6), TOLD_NOBODY);
        Due.is("extremes", c.blockOf(MAX, MIN), TOLD_NOBODY);
        Due.is("extremes", c.blockOf(0, MAX), TOLD_OTHER);
    }

    private static void windowOf() {
        Due.about("23 windowOf");
        SunCourt c = threeSuns();
        c.window(3, 7, 1, 4, 2, 6);
        c.minute(5, 1, 1, 1);
        c.law(5, 1);
        c.years(3);
        int[][] due = {{0, 1, 3, 1, 1, -9}, {3, 12, 0, 0, 0, 5}};
        for (int window = 0; window < 2; window++) {
            for (int what = 0; what < 6; what++) {
                Due.is("of " + window + ": " + what, c.windowOf(window, what), due[window][what]);
            }
        }
        c.law(0, 4);
        Due.is("the first day", c.windowOf(0, 5), 0);
        Due.is("the first day", c.windowOf(1, 5), 0);
        Due.is("lawful now", c.windowOf(0, 3), 0);
        Due.is("kept still", c.windowOf(0, 4), 1);
        Due.is("what -1", c.windowOf(0, -1), TOLD_OTHER);
        Due.is("what 6", c.windowOf(0, 6), TOLD_OTHER);
        Due.is("no window", c.windowOf(2, 0), TOLD_NOBODY);
        Due.is("window before what", c.windowOf(-1, 6), TOLD_NOBODY);
        Due.is("extremes", c.windowOf(MIN, MAX), TOLD_NOBODY);
        Due.is("extremes", c.windowOf(0, MIN), TOLD_OTHER);
    }

    private static void count() {
        Due.about("24 count");
        SunCourt c = oneOfEachKind();
        c.minute(0, 1, 0, 1);
        c.minute(7, 1, 0, 1);
        c.minute(7, 0, 1, 1);
        c.window(0, 100, 0, 1, 0, 1);
        c.window(1, 100, 0, 1, 0, 1);
        c.law(0, 1);
        c.years(4);
        c.law(0, 0);
        int[] due = {4, 4, 2, 3, 2, 1};
        for (int what = 0; what < due.length; what++) {
            Due.is("what " + what, c.count(what), due[what]);
        }
        c.go(9);
        c.taker(9, 0, 0, 0);
        c.block(9, 0, 1, 0, 1, 0, 1);
        c.windowOf(0, 9);
        c.build(0);
        c.go(0);
        c.go(0);
        c.part(0);
        c.part(-1);
        c.years(0);
        c.breach(3, 0);
        c.part(9);
        c.law(0, 25);
        int[] refused = {2, 3, 1, 4, 0, 2};
        for (int i = 0; i < refused.length; i++) {
            Due.is("refusals " + -(i + 1), c.count(11 + i), refused[i]);
        }
        int[] others = {-1, 6, 7, 8, 9, 10, 17, 18, MIN, MAX};
        for (int what : others) {
            Due.is("what " + what, c.count(what), -9);
        }
        Due.is("another what is no refusal", c.count(12), 3);
    }
}
