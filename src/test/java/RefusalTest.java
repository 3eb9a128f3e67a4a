import java.util.HashMap;
import java.util.Map;

/**
 * Each REFUSAL of each method: the last number that is still taken and the first that is not, two
 * REFUSALS that fit at once, and that a refused call changes nothing but how many there were.
 */
public final class RefusalTest {
    private static final int MIN = Integer.MIN_VALUE;
    private static final int MAX = Integer.MAX_VALUE;
    private static final int[] NO_DAY = {-1, 8, MIN, MAX};
    private static final int[] NO_BLOCK = {-1, 10, 40, MIN, MAX};
    private static final int[] NO_WINDOW = {-1, 3, 20, MIN, MAX};
    private static final int[] NO_TREE = {Scene.BLOCK, Scene.GLASS, Scene.PLANNED, Scene.BUILT,
        Scene.GONE_BLOCK, Scene.GONE_GLASS, Scene.GONE_PLANNED, Scene.GONE_BUILT};
    private static final int[] NOT_PLANNED = {Scene.BLOCK, Scene.TREE, Scene.GLASS,
        Scene.GONE_BLOCK, Scene.GONE_TREE, Scene.GONE_GLASS};
    private static final int[] PLANNED_ONCE = {Scene.BUILT, Scene.GONE_PLANNED, Scene.GONE_BUILT};
    private static final String AS_TOLD = "taker loss breach blockOf windowOf";

    private static final Map<String, Map<String, Integer>> UNTOUCHED = new HashMap<>();

    private RefusalTest() {
    }

    public static void main(String[] args) {
        minute();
        minuteTwoAtOnce();
        blockKind();
        blockBelow();
        blockRoom();
        blockTwoAtOnce();
        share();
        shareTwoAtOnce();
        most();
        mostTwoAtOnce();
        cut();
        cutTwoAtOnce();
        build();
        go();
        windowSide();
        windowBelow();
        windowRoom();
        windowTwoAtOnce();
        part();
        law();
        sun();
        light();
        taker();
        takes();
        hours();
        loss();
        lossTwoAtOnce();
        high();
        breach();
        breachTwoAtOnce();
        years();
        release();
        blockOf();
        windowOf();
        count();
        emptyCourt();
        noMinusFive();
        Due.end();
    }

    /** The call answers that REFUSAL, which is counted once; nothing else has changed. */
    private static void refused(Scene scene, int number, String method, int... numbers) {
        String call = scene + " " + Scene.text(method, numbers);
        boolean asTold = (" " + AS_TOLD + " ").contains(" " + method + " ");
        for (int look = 0; look < Scene.LOOKS; look++) {
            SunCourt c = scene.make();
            int[] due = refusals(c);
            due[-number]++;
            Due.is(call, Scene.ask(c, method, numbers), asTold ? 1000000 - number : number);
            sameRefusals(call, c, due);
            Map<String, Integer> seen = scene.look(c, look);
            for (Map.Entry<String, Integer> was : untouched(scene, look).entrySet()) {
                Due.is(call + ", then " + was.getKey(), seen.get(was.getKey()), was.getValue());
            }
        }
    }

    private static void refusedMixed(int number, String method, int... numbers) {
        refused(Scene.MIXED, number, method, numbers);
    }

    /** The call is not refused: it answers what is due, and no REFUSAL is counted. */
    private static void taken(Scene scene, int answer, String method, int... numbers) {
        String call = scene + " " + Scene.text(method, numbers);
        SunCourt c = scene.make();
        int[] due = refusals(c);
        Due.is(call, Scene.ask(c, method, numbers), answer);
        sameRefusals(call, c, due);
    }

    private static void takenMixed(int answer, String method, int... numbers) {
        taken(Scene.MIXED, answer, method, numbers);
    }

    private static int[] refusals(SunCourt c) {
        int[] counted = new int[7];
        for (int number = 1; number <= 6; number++) {
            counted[number] = c.count(10 + number);
        }
        return counted;
    }

    private static void sameRefusals(String call, SunCourt c, int[] due) {
        for (int number = 1; number <= 6; number++) {
            Due.is(call + ", then count(" + (10 + number) + ")", c.count(10 + number), due[number]);
        }
    }

    private static Map<String, Integer> untouched(Scene scene, int look) {
        return UNTOUCHED.computeIfAbsent(scene + " " + look, key -> scene.look(scene.make(), look));
    }

    private static void minute() {
        Due.about("2 minute: -1");
        for (int day : NO_DAY) {
            refusedMixed(-1, "minute", day, 0, 0, 1);
        }
        takenMixed(3, "minute", 0, 0, 0, 1);
        takenMixed(2, "minute", 7, 0, 0, 1);
        Due.about("2 minute: -4 x or y below -50, z below 1");
        for (int low : new int[] {-51, MIN}) {
            refusedMixed(-4, "minute", 0, low, 0, 1);
            refusedMixed(-4, "minute", 0, 0, low, 1);
            refusedMixed(-4, "minute", 0, 0, 0, low);
        }
        refusedMixed(-4, "minute", 0, 0, 0, 0);
        takenMixed(3, "minute", 0, -50, 0, 1);
        takenMixed(3, "minute", 0, 0, -50, 1);
        Due.about("2 minute: -6 above 50, 24 MINUTES");
        for (int high : new int[] {51, MAX}) {
            refusedMixed(-6, "minute", 0, high, 0, 1);
            refusedMixed(-6, "minute", 0, 0, high, 1);
            refusedMixed(-6, "minute", 0, 0, 0, high);
        }
        takenMixed(3, "minute", 0, 50, 0, 1);
        takenMixed(3, "minute", 0, 0, 50, 1);
        takenMixed(3, "minute", 0, 0, 0, 50);
        refused(Scene.FULL, -6, "minute", 0, 0, 0, 1);
        taken(Scene.FULL, 0, "minute", 1, 0, 0, 1);
    }

    private static void minuteTwoAtOnce() {
        Due.about("2 minute: -1; -4; -6 at once");
        refusedMixed(-1, "minute", 8, -51, 0, 1);
        refusedMixed(-1, "minute", -1, 0, -51, 1);
        refusedMixed(-1, "minute", 8, 0, 0, 0);
        refusedMixed(-1, "minute", 8, 51, 0, 1);
        refusedMixed(-1, "minute", -1, 0, 0, 51);
        refusedMixed(-4, "minute", 0, -51, 51, 1);
        refusedMixed(-4, "minute", 0, 51, -51, 1);
        refusedMixed(-4, "minute", 0, 51, 51, 0);
        refusedMixed(-4, "minute", 0, 0, -51, 51);
        refused(Scene.FULL, -4, "minute", 0, -51, 0, 1);
        refused(Scene.FULL, -4, "minute", 0, 0, -51, 1);
        refused(Scene.FULL, -4, "minute", 0, 0, 0, 0);
        refused(Scene.FULL, -1, "minute", 8, 0, 0, 1);
        refused(Scene.FULL, -6, "minute", 0, 51, 0, 1);
    }

    private static void blockKind() {
        Due.about("3 block: -2");
        for (int kind : new int[] {-1, 4, MIN, MAX}) {
            refusedMixed(-2, "block", kind, 0, 1, 0, 1, 0, 1);
        }
        for (int kind = 0; kind < 4; kind++) {
            takenMixed(10, "block", kind, 0, 1, 0, 1, 0, 1);
        }
    }

    private static void blockBelow() {
        Due.about("3 block: -4 a place below 0");
        for (int low : new int[] {-1, MIN}) {
            refusedMixed(-4, "block", 0, low, 1, 0, 1, 0, 1);
            refusedMixed(-4, "block", 0, 0, 1, low, 1, 0, 1);
            refusedMixed(-4, "block", 0, 0, 1, 0, 1, low, 1);
            refusedMixed(-4, "block", 0, 0, low, 0, 1, 0, 1);
            refusedMixed(-4, "block", 0, 0, 1, 0, low, 0, 1);
            refusedMixed(-4, "block", 0, 0, 1, 0, 1, 0, low);
        }
        refusedMixed(-4, "block", 0, -2, -1, 0, 1, 0, 1);
        refusedMixed(-4, "block", 0, 0, 1, -2, -1, 0, 1);
        refusedMixed(-4, "block", 0, 0, 1, 0, 1, -2, -1);
        takenMixed(10, "block", 0, 0, 1, 0, 1, 0, 1);
        Due.about("3 block: -4 x1 not above x0, y1 not above y0, top not above foot");
        for (int kind = 0; kind < 4; kind++) {
            refusedMixed(-4, "block", kind, 5, 5, 0, 1, 0, 1);
            refusedMixed(-4, "block", kind, 0, 1, 5, 5, 0, 1);
            refusedMixed(-4, "block", kind, 0, 1, 0, 1, 5, 5);
        }
        refusedMixed(-4, "block", 0, 5, 4, 0, 1, 0, 1);
        refusedMixed(-4, "block", 0, 0, 1, 5, 4, 0, 1);
        refusedMixed(-4, "block", 0, 0, 1, 0, 1, 5, 4);
        takenMixed(10, "block", 0, 5, 6, 5, 6, 5, 6);
    }

    private static void blockRoom() {
        Due.about("3 block: -6 a place above 200");
        for (int high : new int[] {201, MAX}) {
            refusedMixed(-6, "block", 0, 0, high, 0, 1, 0, 1);
            refusedMixed(-6, "block", 0, 0, 1, 0, high, 0, 1);
            refusedMixed(-6, "block", 0, 0, 1, 0, 1, 0, high);
        }
        refusedMixed(-6, "block", 0, 201, 202, 0, 1, 0, 1);
        refusedMixed(-6, "block", 0, 0, 1, 201, 202, 0, 1);
        refusedMixed(-6, "block", 0, 0, 1, 0, 1, 201, 202);
        takenMixed(10, "block", 0, 199, 200, 199, 200, 199, 200);
        takenMixed(10, "block", 0, 0, 200, 0, 200, 0, 200);
        Due.about("3 block: -6 40 BLOCKS");
        for (int kind = 0; kind < 4; kind++) {
            refused(Scene.FULL, -6, "block", kind, 0, 1, 0, 1, 0, 1);
        }
    }

    private static void blockTwoAtOnce() {
        Due.about("3 block: -2; -4; -6 at once");
        refusedMixed(-2, "block", 4, -1, 1, 0, 1, 0, 1);
        refusedMixed(-2, "block", -1, 0, 1, 0, 1, 5, 5);
        refusedMixed(-2, "block", 4, 0, 201, 0, 1, 0, 1);
        refused(Scene.FULL, -2, "block", 4, 0, 1, 0, 1, 0, 1);
        refusedMixed(-4, "block", 0, -1, 201, 0, 1, 0, 1);
        refusedMixed(-4, "block", 0, 0, 201, -1, 1, 0, 1);
        refusedMixed(-4, "block", 0, 0, 1, 0, 201, -1, 1);
        refusedMixed(-4, "block", 0, 201, 201, 0, 1, 0, 1);
        refusedMixed(-4, "block", 0, 0, 1, 202, 201, 0, 1);
        refusedMixed(-4, "block", 0, 0, 1, 0, 1, 201, 200);
        refusedMixed(-4, "block", 0, 201, 202, 0, 1, 3, 3);
        refused(Scene.FULL, -4, "block", 0, -1, 1, 0, 1, 0, 1);
        refused(Scene.FULL, -4, "block", 0, 1, 1, 0, 1, 0, 1);
        refused(Scene.FULL, -4, "block", 0, 0, 1, 1, 1, 0, 1);
        refused(Scene.FULL, -4, "block", 0, 0, 1, 0, 1, 1, 1);
    }

    private static void share() {
        Due.about("4 share: -1");
        for (int block : NO_BLOCK) {
            refusedMixed(-1, "share", block, 0, 4);
        }
        for (int day : NO_DAY) {
            refusedMixed(-1, "share", Scene.TREE, day, 4);
        }
        Due.about("4 share: -2");
        for (int block : NO_TREE) {
            refusedMixed(-2, "share", block, 0, 4);
        }
        Due.about("4 share: -4; -6");
        refusedMixed(-4, "share", Scene.TREE, 0, -1);
        refusedMixed(-4, "share", Scene.TREE, 7, MIN);
        refusedMixed(-6, "share", Scene.TREE, 0, 9);
        refusedMixed(-6, "share", Scene.TREE, 7, MAX);
        takenMixed(4, "share", Scene.TREE, 0, 0);
        takenMixed(4, "share", Scene.TREE, 0, 8);
        takenMixed(0, "share", Scene.TREE, 7, 8);
        takenMixed(0, "share", Scene.GONE_TREE, 0, 8);
    }

    private static void shareTwoAtOnce() {
        Due.about("4 share: -1; -2; -4; -6 at once");
        refusedMixed(-1, "share", Scene.BLOCK, 8, 4);
        refusedMixed(-1, "share", Scene.BLOCK, -1, 4);
        refusedMixed(-1, "share", Scene.TREE, 8, -1);
        refusedMixed(-1, "share", Scene.TREE, -1, 9);
        refusedMixed(-1, "share", 10, 0, -1);
        refusedMixed(-1, "share", -1, 0, 9);
        refusedMixed(-2, "share", Scene.GLASS, 0, -1);
        refusedMixed(-2, "share", Scene.PLANNED, 0, 9);
        refusedMixed(-4, "share", Scene.GONE_TREE, 0, -1);
        refusedMixed(-6, "share", Scene.GONE_TREE, 0, 9);
    }

    /** MIXED: the TOP of its TREE is 12, that of the GONE one 8. */
    private static void most() {
        Due.about("5 most: -1");
        for (int block : NO_BLOCK) {
            refusedMixed(-1, "most", block, 100);
        }
        Due.about("5 most: -2");
        for (int block : NO_TREE) {
            refusedMixed(-2, "most", block, 100);
        }
        Due.about("5 most: -4 below its TOP");
        refusedMixed(-4, "most", Scene.TREE, 11);
        refusedMixed(-4, "most", Scene.TREE, MIN);
        takenMixed(50, "most", Scene.TREE, 12);
        Due.about("5 most: -6 above 200");
        refusedMixed(-6, "most", Scene.TREE, 201);
        refusedMixed(-6, "most", Scene.TREE, MAX);
        takenMixed(50, "most", Scene.TREE, 200);
        Due.about("5 most: MOST of a TREE (GONE or not)");
        refusedMixed(-4, "most", Scene.GONE_TREE, 7);
        takenMixed(200, "most", Scene.GONE_TREE, 8);
        takenMixed(200, "most", Scene.GONE_TREE, 200);
        refusedMixed(-6, "most", Scene.GONE_TREE, 201);
    }

    private static void mostTwoAtOnce() {
        Due.about("5 most: -1; -2; -4; -6 at once");
        refusedMixed(-1, "most", 10, 0);
        refusedMixed(-1, "most", -1, 201);
        refusedMixed(-2, "most", Scene.BLOCK, 0);
        refusedMixed(-2, "most", Scene.GLASS, 201);
        refusedMixed(-2, "most", Scene.GONE_BLOCK, 0);
    }

    /** MIXED: the FOOT of its TREE is 2, its TOP 12. */
    private static void cut() {
        Due.about("6 cut: -1");
        for (int block : NO_BLOCK) {
            refusedMixed(-1, "cut", block, 5);
        }
        Due.about("6 cut: -2");
        for (int block : NO_TREE) {
            refusedMixed(-2, "cut", block, 3);
        }
        Due.about("6 cut: -3");
        refusedMixed(-3, "cut", Scene.GONE_TREE, 3);
        Due.about("6 cut: -4 not above its FOOT");
        refusedMixed(-4, "cut", Scene.TREE, 2);
        refusedMixed(-4, "cut", Scene.TREE, 1);
        refusedMixed(-4, "cut", Scene.TREE, MIN);
        takenMixed(12, "cut", Scene.TREE, 3);
        Due.about("6 cut: -6 above its TOP");
        refusedMixed(-6, "cut", Scene.TREE, 13);
        refusedMixed(-6, "cut", Scene.TREE, 50);
        refusedMixed(-6, "cut", Scene.TREE, MAX);
        takenMixed(12, "cut", Scene.TREE, 12);
    }

    private static void cutTwoAtOnce() {
        Due.about("6 cut: -1; -2; -3; -4; -6 at once");
        refusedMixed(-1, "cut", 10, 0);
        refusedMixed(-1, "cut", -1, 201);
        refusedMixed(-2, "cut", Scene.GONE_BLOCK, 5);
        refusedMixed(-2, "cut", Scene.BUILT, 5);
        refusedMixed(-2, "cut", Scene.BLOCK, 0);
        refusedMixed(-2, "cut", Scene.GLASS, 201);
        refusedMixed(-3, "cut", Scene.GONE_TREE, 0);
        refusedMixed(-3, "cut", Scene.GONE_TREE, 9);
    }

    private static void build() {
        Due.about("7 build: -1");
        for (int block : NO_BLOCK) {
            refusedMixed(-1, "build", block);
        }
        Due.about("7 build: -2, and -3 at once");
        for (int block : NOT_PLANNED) {
            refusedMixed(-2, "build", block);
        }
        Due.about("7 build: -3 GONE, built");
        for (int block : PLANNED_ONCE) {
            refusedMixed(-3, "build", block);
        }
        takenMixed(1, "build", Scene.PLANNED);
    }

    private static void go() {
        Due.about("8 go: -1");
        for (int block : NO_BLOCK) {
            refusedMixed(-1, "go", block);
        }
        Due.about("8 go: -3");
        for (int block = Scene.GONE_BLOCK; block <= Scene.GONE_BUILT; block++) {
            refusedMixed(-3, "go", block);
        }
        for (int block = 0; block < Scene.GONE_BLOCK; block++) {
            takenMixed(1, "go", block);
        }
    }

    private static void windowSide() {
        Due.about("9 window: -2 SIDE");
        for (int side : new int[] {-1, 4, MIN, MAX}) {
            refusedMixed(-2, "window", side, 0, 0, 1, 0, 1);
        }
        for (int side = 0; side < 4; side++) {
            takenMixed(3, "window", side, 0, 0, 1, 0, 1);
        }
    }

    private static void windowBelow() {
        Due.about("9 window: -4 a place below 0");
        for (int low : new int[] {-1, MIN}) {
            refusedMixed(-4, "window", 0, low, 0, 1, 0, 1);
            refusedMixed(-4, "window", 0, 0, low, 1, 0, 1);
            refusedMixed(-4, "window", 0, 0, 0, low, 0, 1);
            refusedMixed(-4, "window", 0, 0, 0, 1, low, 1);
            refusedMixed(-4, "window", 0, 0, 0, 1, 0, low);
        }
        refusedMixed(-4, "window", 0, 0, -2, -1, 0, 1);
        refusedMixed(-4, "window", 0, 0, 0, 1, -2, -1);
        takenMixed(3, "window", 0, 0, 0, 1, 0, 1);
        Due.about("9 window: -4 u1 not above u0, z1 not above z0");
        for (int side = 0; side < 4; side++) {
            refusedMixed(-4, "window", side, 0, 5, 5, 0, 1);
            refusedMixed(-4, "window", side, 0, 0, 1, 5, 5);
        }
        refusedMixed(-4, "window", 0, 0, 5, 4, 0, 1);
        refusedMixed(-4, "window", 0, 0, 0, 1, 5, 4);
        // Two sides below 0 would make a room that is none above it.
        refusedMixed(-4, "window", 0, 0, 5, 4, 5, 4);
        takenMixed(3, "window", 0, 5, 5, 6, 5, 6);
    }

    private static void windowRoom() {
        Due.about("9 window: -6 a place above 200");
        for (int high : new int[] {201, MAX}) {
            refusedMixed(-6, "window", 0, high, 0, 1, 0, 1);
            refusedMixed(-6, "window", 0, 0, high - 1, high, 0, 1);
            refusedMixed(-6, "window", 0, 0, 0, 1, high - 1, high);
        }
        refusedMixed(-6, "window", 0, 0, 201, 202, 0, 1);
        refusedMixed(-6, "window", 0, 0, 0, 1, 201, 202);
        takenMixed(3, "window", 0, 200, 199, 200, 199, 200);
        Due.about("9 window: -6 more than 64 CELLS");
        refusedMixed(-6, "window", 0, 0, 0, 65, 0, 1);
        refusedMixed(-6, "window", 0, 0, 0, 1, 0, 65);
        refusedMixed(-6, "window", 0, 0, 0, 5, 0, 13);
        refusedMixed(-6, "window", 0, 0, 0, 200, 0, 200);
        refusedMixed(-6, "window", 0, 0, 0, 65536, 0, 65536);
        refusedMixed(-6, "window", 0, 0, 0, MAX, 0, MAX);
        takenMixed(3, "window", 0, 0, 0, 64, 0, 1);
        takenMixed(3, "window", 0, 0, 0, 1, 0, 64);
        takenMixed(3, "window", 0, 0, 0, 8, 0, 8);
        takenMixed(3, "window", 0, 0, 136, 200, 199, 200);
        Due.about("9 window: -6 20 WINDOWS");
        for (int side = 0; side < 4; side++) {
            refused(Scene.FULL, -6, "window", side, 0, 0, 1, 0, 1);
        }
    }

    private static void windowTwoAtOnce() {
        Due.about("9 window: -2; -4; -6 at once");
        refusedMixed(-2, "window", 4, -1, 0, 1, 0, 1);
        refusedMixed(-2, "window", -1, 0, 5, 5, 0, 1);
        refusedMixed(-2, "window", 4, 201, 0, 1, 0, 1);
        refusedMixed(-2, "window", 4, 0, 0, 65, 0, 1);
        refused(Scene.FULL, -2, "window", 4, 0, 0, 1, 0, 1);
        refusedMixed(-4, "window", 0, 201, -1, 1, 0, 1);
        refusedMixed(-4, "window", 0, -1, 0, 201, 0, 1);
        refusedMixed(-4, "window", 0, 0, 201, 201, 0, 1);
        refusedMixed(-4, "window", 0, 0, 0, 1, 202, 201);
        refusedMixed(-4, "window", 0, -1, 0, 65, 0, 1);
        refusedMixed(-4, "window", 0, 0, 0, 65, 3, 3);
        refused(Scene.FULL, -4, "window", 0, -1, 0, 1, 0, 1);
        refused(Scene.FULL, -4, "window", 0, 0, 1, 1, 0, 1);
        refused(Scene.FULL, -4, "window", 0, 0, 0, 1, 1, 1);
    }

    private static void part() {
        Due.about("10 part: -4");
        refusedMixed(-4, "part", 0);
        refusedMixed(-4, "part", -1);
        refusedMixed(-4, "part", MIN);
        takenMixed(3, "part", 1);
        Due.about("10 part: -6");
        refusedMixed(-6, "part", 9);
        refusedMixed(-6, "part", MAX);
        takenMixed(3, "part", 8);
    }

    private static void law() {
        Due.about("11 law: -1");
        for (int day : NO_DAY) {
            refusedMixed(-1, "law", day, 1);
        }
        Due.about("11 law: -4");
        refusedMixed(-4, "law", 7, -1);
        refusedMixed(-4, "law", 0, MIN);
        takenMixed(1, "law", 7, 0);
        Due.about("11 law: -6");
        refusedMixed(-6, "law", 7, 25);
        refusedMixed(-6, "law", 0, MAX);
        takenMixed(1, "law", 7, 24);
        takenMixed(2, "law", 0, 24);
        Due.about("11 law: -1; -4; -6 at once");
        refusedMixed(-1, "law", 8, -1);
        refusedMixed(-1, "law", -1, 25);
    }

    private static void sun() {
        Due.about("12 sun: -1");
        for (int window : NO_WINDOW) {
            refusedMixed(-1, "sun", window, 0, 0);
        }
        for (int day : NO_DAY) {
            refusedMixed(-1, "sun", 0, day, 0);
        }
        for (int minute : new int[] {-1, 3, 24, MIN, MAX}) {
            refusedMixed(-1, "sun", 0, 0, minute);
        }
        refusedMixed(-1, "sun", 0, 1, 1);
        refusedMixed(-1, "sun", 0, 2, 0);
        refusedMixed(-1, "sun", 3, 8, 3);
        refused(Scene.FULL, -1, "sun", 20, 0, 0);
        refused(Scene.FULL, -1, "sun", 0, 0, 24);
        takenMixed(4 * 4096, "sun", 0, 7, 1);
        taken(Scene.FULL, 0, "sun", 19, 0, 23);
    }

    private static void light() {
        Due.about("13 light: -1");
        for (int window : NO_WINDOW) {
            refusedMixed(-1, "light", window, 0, 7, 1);
        }
        for (int cell : new int[] {-1, 4, 64, MIN, MAX}) {
            refusedMixed(-1, "light", 0, cell, 7, 1);
        }
        // What CELLS one WINDOW has is nothing to the others.
        refusedMixed(-1, "light", 1, 1, 7, 1);
        refusedMixed(-1, "light", 2, 6, 7, 1);
        for (int day : NO_DAY) {
            refusedMixed(-1, "light", 0, 0, day, 0);
        }
        for (int minute : new int[] {-1, 2, 24, MIN, MAX}) {
            refusedMixed(-1, "light", 0, 0, 7, minute);
        }
        refusedMixed(-1, "light", 3, 4, 8, 3);
        takenMixed(4096, "light", 0, 0, 7, 1);
        takenMixed(4096, "light", 0, 3, 7, 1);
        takenMixed(4096, "light", 2, 5, 7, 1);
    }

    private static void taker() {
        Due.about("14 taker: refused as told: -1");
        for (int window : NO_WINDOW) {
            refusedMixed(-1, "taker", window, 0, 7, 1);
        }
        for (int cell : new int[] {-1, 4, 64, MIN, MAX}) {
            refusedMixed(-1, "taker", 0, cell, 7, 1);
        }
        refusedMixed(-1, "taker", 1, 1, 7, 0);
        for (int day : NO_DAY) {
            refusedMixed(-1, "taker", 0, 0, day, 0);
        }
        for (int minute : new int[] {-1, 2, 24, MIN, MAX}) {
            refusedMixed(-1, "taker", 0, 0, 7, minute);
        }
        Due.about("14 taker: -1 and without the SUN in front at once");
        refusedMixed(-1, "taker", 0, 4, 7, 0);
        refusedMixed(-1, "taker", 3, 0, 7, 0);
        takenMixed(-9, "taker", 0, 3, 7, 1);
        takenMixed(-8, "taker", 0, 3, 7, 0);
        takenMixed(Scene.BLOCK, "taker", 0, 0, 0, 2);
    }

    private static void takes() {
        Due.about("15 takes: -1");
        for (int window : NO_WINDOW) {
            refusedMixed(-1, "takes", window, 0, 0);
        }
        for (int day : NO_DAY) {
            refusedMixed(-1, "takes", 0, day, 0);
        }
        for (int block : NO_BLOCK) {
            refusedMixed(-1, "takes", 0, 0, block);
        }
        // These are answers of taker, and no BLOCKS.
        refusedMixed(-1, "takes", 0, 7, -9);
        refusedMixed(-1, "takes", 0, 7, -8);
        refused(Scene.FULL, -1, "takes", 19, 0, 40);
        taken(Scene.FULL, 0, "takes", 19, 7, 39);
        takenMixed(0, "takes", 2, 7, 9);
    }

    private static void hours() {
        Due.about("16 hours: -1");
        for (int window : NO_WINDOW) {
            refusedMixed(-1, "hours", window, 0);
        }
        for (int day : NO_DAY) {
            refusedMixed(-1, "hours", 0, day);
        }
        refusedMixed(-1, "hours", 3, 8);
        refused(Scene.EMPTY, -1, "hours", 0, 0);
        takenMixed(1, "hours", 0, 7);
        takenMixed(0, "hours", 0, 6);
        taken(Scene.FULL, 0, "hours", 19, 7);
    }

    private static void loss() {
        Due.about("17 loss: refused as told: -1");
        for (int block : NO_BLOCK) {
            refusedMixed(-1, "loss", block, 0, 0);
        }
        for (int window : NO_WINDOW) {
            refusedMixed(-1, "loss", Scene.PLANNED, window, 0);
        }
        for (int day : NO_DAY) {
            refusedMixed(-1, "loss", Scene.PLANNED, 0, day);
        }
        Due.about("17 loss: refused as told: -2");
        for (int block : NOT_PLANNED) {
            refusedMixed(-2, "loss", block, 0, 0);
        }
        Due.about("17 loss: refused as told: -3");
        for (int block : PLANNED_ONCE) {
            refusedMixed(-3, "loss", block, 0, 0);
        }
        takenMixed(0, "loss", Scene.PLANNED, 2, 7);
    }

    private static void lossTwoAtOnce() {
        Due.about("17 loss: -1; -2; -3 at once");
        refusedMixed(-1, "loss", Scene.BLOCK, 3, 0);
        refusedMixed(-1, "loss", Scene.BLOCK, 0, 8);
        refusedMixed(-1, "loss", Scene.BLOCK, -1, 0);
        refusedMixed(-1, "loss", Scene.BLOCK, 0, -1);
        refusedMixed(-1, "loss", Scene.BUILT, 3, 0);
        refusedMixed(-1, "loss", Scene.BUILT, 0, 8);
        refusedMixed(-1, "loss", Scene.GONE_PLANNED, -1, 0);
        refusedMixed(-1, "loss", Scene.GONE_PLANNED, 0, -1);
        refusedMixed(-1, "loss", 10, 3, 8);
        refusedMixed(-2, "loss", Scene.GONE_BLOCK, 0, 0);
        refusedMixed(-2, "loss", Scene.GONE_GLASS, 2, 7);
    }

    private static void high() {
        Due.about("18 high: -1");
        for (int block : NO_BLOCK) {
            refusedMixed(-1, "high", block);
        }
        Due.about("18 high: -2, and -3 at once");
        for (int block : NOT_PLANNED) {
            refusedMixed(-2, "high", block);
        }
        Due.about("18 high: -3");
        for (int block : PLANNED_ONCE) {
            refusedMixed(-3, "high", block);
        }
        takenMixed(5, "high", Scene.PLANNED);
    }

    /** MIXED: the FOOT of its PLANNED BLOCK is 2. */
    private static void breach() {
        Due.about("19 breach: refused as told: -1");
        for (int block : NO_BLOCK) {
            refusedMixed(-1, "breach", block, 5);
        }
        Due.about("19 breach: refused as told: -2");
        for (int block : NOT_PLANNED) {
            refusedMixed(-2, "breach", block, 5);
        }
        Due.about("19 breach: refused as told: -3");
        for (int block : PLANNED_ONCE) {
            refusedMixed(-3, "breach", block, 5);
        }
        Due.about("19 breach: refused as told: -4 top not above its FOOT");
        refusedMixed(-4, "breach", Scene.PLANNED, 2);
        refusedMixed(-4, "breach", Scene.PLANNED, 1);
        refusedMixed(-4, "breach", Scene.PLANNED, MIN);
        takenMixed(-9, "breach", Scene.PLANNED, 3);
        Due.about("19 breach: refused as told: -6 above 200");
        refusedMixed(-6, "breach", Scene.PLANNED, 201);
        refusedMixed(-6, "breach", Scene.PLANNED, MAX);
        takenMixed(0, "breach", Scene.PLANNED, 200);
    }

    private static void breachTwoAtOnce() {
        Due.about("19 breach: -1; -2; -3; -4; -6 at once");
        refusedMixed(-1, "breach", 10, 0);
        refusedMixed(-1, "breach", -1, 201);
        refusedMixed(-2, "breach", Scene.GONE_BLOCK, 5);
        refusedMixed(-2, "breach", Scene.BLOCK, -1);
        refusedMixed(-2, "breach", Scene.TREE, 201);
        refusedMixed(-3, "breach", Scene.BUILT, 0);
        refusedMixed(-3, "breach", Scene.BUILT, 201);
        refusedMixed(-3, "breach", Scene.GONE_PLANNED, 1);
        refusedMixed(-3, "breach", Scene.GONE_BUILT, 201);
    }

    private static void years() {
        Due.about("20 years: -4");
        refusedMixed(-4, "years", 0);
        refusedMixed(-4, "years", -1);
        refusedMixed(-4, "years", MIN);
        refused(Scene.FULL, -4, "years", 0);
        takenMixed(4, "years", 1);
        Due.about("20 years: -6 it would be above 60");
        refusedMixed(-6, "years", 58);
        refusedMixed(-6, "years", MAX);
        refused(Scene.FULL, -6, "years", 1);
        refused(Scene.FULL, -6, "years", MAX);
        refused(Scene.EMPTY, -6, "years", 61);
        takenMixed(60, "years", 57);
        taken(Scene.EMPTY, 60, "years", 60);
    }

    private static void release() {
        Due.about("21 release: false if it was, or there is none such");
        for (int window : NO_WINDOW) {
            takenMixed(0, "release", window);
        }
        takenMixed(0, "release", 2);
        takenMixed(1, "release", 0);
        takenMixed(1, "release", 1);
        taken(Scene.FULL, 0, "release", 20);
        taken(Scene.FULL, 1, "release", 19);
        taken(Scene.EMPTY, 0, "release", 0);
    }

    private static void blockOf() {
        Due.about("22 blockOf: refused as told: -1");
        for (int block : NO_BLOCK) {
            refusedMixed(-1, "blockOf", block, 0);
        }
        refused(Scene.FULL, -1, "blockOf", 40, 0);
        taken(Scene.FULL, 3, "blockOf", 39, 0);
        Due.about("22 blockOf: refused as told: -2");
        for (int what : new int[] {-1, 6, MIN, MAX}) {
            refusedMixed(-2, "blockOf", Scene.TREE, what);
        }
        takenMixed(1, "blockOf", Scene.TREE, 0);
        takenMixed(0, "blockOf", Scene.TREE, 5);
        Due.about("22 blockOf: -1; -2 at once");
        refusedMixed(-1, "blockOf", 10, 6);
        refusedMixed(-1, "blockOf", -1, -1);
    }

    private static void windowOf() {
        Due.about("23 windowOf: refused as told: -1");
        for (int window : NO_WINDOW) {
            refusedMixed(-1, "windowOf", window, 0);
        }
        refused(Scene.FULL, -1, "windowOf", 20, 0);
        taken(Scene.FULL, 3, "windowOf", 19, 0);
        Due.about("23 windowOf: refused as told: -2");
        for (int what : new int[] {-1, 6, MIN, MAX}) {
            refusedMixed(-2, "windowOf", 0, what);
        }
        takenMixed(0, "windowOf", 0, 0);
        takenMixed(-9, "windowOf", 0, 5);
        Due.about("23 windowOf: -1; -2 at once");
        refusedMixed(-1, "windowOf", 3, 6);
        refusedMixed(-1, "windowOf", -1, -1);
    }

    private static void count() {
        Due.about("24 count: -9 for another what");
        for (int what : new int[] {-1, 6, 7, 10, 17, -11, -16, MIN, MAX}) {
            takenMixed(-9, "count", what);
        }
        Due.about("24 count: its edges");
        takenMixed(3, "count", 0);
        takenMixed(1, "count", 5);
        takenMixed(0, "count", 11);
        takenMixed(0, "count", 16);
    }

    private static void emptyCourt() {
        Due.about("REFUSALS of a new object");
        for (String method : new String[] {"build", "go", "high"}) {
            refused(Scene.EMPTY, -1, method, 0);
        }
        for (String method : new String[] {"most", "cut", "hours", "breach", "blockOf", "windowOf"}) {
            refused(Scene.EMPTY, -1, method, 0, 1);
        }
        for (String method : new String[] {"share", "sun", "takes", "loss"}) {
            refused(Scene.EMPTY, -1, method, 0, 0, 0);
        }
        refused(Scene.EMPTY, -1, "light", 0, 0, 0, 0);
        refused(Scene.EMPTY, -1, "taker", 0, 0, 0, 0);
    }

    private static void noMinusFive() {
        Due.about("24 count: REFUSALS -1 .. -6, of which none is -5");
        SunCourt c = Scene.MIXED.make();
        c.go(10);
        c.build(Scene.BLOCK);
        c.build(Scene.BLOCK);
        for (int i = 0; i < 3; i++) {
            c.go(Scene.GONE_BLOCK);
        }
        for (int i = 0; i < 4; i++) {
            c.part(0);
        }
        for (int i = 0; i < 6; i++) {
            c.part(9);
        }
        int[] due = {1, 2, 3, 4, 0, 6};
        for (int i = 0; i < due.length; i++) {
            Due.is("count(" + (11 + i) + ")", c.count(11 + i), due[i]);
        }
    }
}
