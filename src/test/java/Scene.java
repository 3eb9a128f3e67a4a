import java.lang.reflect.InvocationTargetException;
import java.lang.reflect.Method;
import java.util.LinkedHashMap;
import java.util.Map;

/** Courts that are made anew for each question, and all that can be seen of one. */
enum Scene {
    /** A new object. */
    EMPTY,

    /** BLOCKS of each KIND, standing, built and GONE; WINDOWS that are KEPT, RELEASED and fallen. */
    MIXED,

    /** 24 MINUTES on DAY 0, 40 BLOCKS, 20 WINDOWS, YEAR 60. */
    FULL;

    static final int LOOKS = 3;

    static final int BLOCK = 0;
    static final int TREE = 1;
    static final int GLASS = 2;
    static final int PLANNED = 3;
    static final int BUILT = 4;
    static final int GONE_BLOCK = 5;
    static final int GONE_TREE = 6;
    static final int GONE_GLASS = 7;
    static final int GONE_PLANNED = 8;
    static final int GONE_BUILT = 9;

    SunCourt make() {
        SunCourt c = new SunCourt();
        if (this == MIXED) {
            mix(c);
        } else if (this == FULL) {
            fill(c);
        }
        return c;
    }

    private static void mix(SunCourt c) {
        c.minute(0, 1, 0, 1);
        c.minute(0, 2, 0, 1);
        c.minute(0, 50, 0, 1);
        c.minute(1, 0, 1, 1);
        c.minute(7, -1, 0, 1);
        c.minute(7, 1, 1, 1);
        c.block(0, 30, 40, 0, 10, 0, 3);
        c.block(1, 20, 24, 0, 2, 2, 9);
        c.block(2, 5, 6, 0, 10, 0, 20);
        c.block(3, 10, 20, 0, 3, 2, 5);
        c.block(3, 60, 70, 0, 1, 0, 10);
        c.block(0, 1, 2, 0, 200, 0, 200);
        c.block(1, 1, 2, 0, 200, 0, 5);
        c.block(2, 1, 2, 0, 200, 0, 200);
        c.block(3, 1, 2, 0, 200, 1, 200);
        c.block(3, 1, 2, 0, 200, 1, 200);
        c.build(BUILT);
        c.build(GONE_BUILT);
        for (int block = GONE_BLOCK; block <= GONE_BUILT; block++) {
            c.go(block);
        }
        c.share(TREE, 0, 4);
        c.most(TREE, 50);
        c.window(0, 0, 0, 2, 0, 2);
        c.window(3, 100, 0, 1, 0, 1);
        c.window(2, 0, 50, 53, 0, 2);
        c.release(2);
        c.part(3);
        c.law(7, 1);
        c.years(3);
        c.law(0, 2);
    }

    private static void fill(SunCourt c) {
        for (int minute = 0; minute < 24; minute++) {
            c.minute(0, 1 + minute, 0, 1);
        }
        for (int block = 0; block < 40; block++) {
            c.block(block % 4, 100 + block, 101 + block, 0, 1, 0, 1);
        }
        for (int window = 0; window < 20; window++) {
            c.window(window % 4, 50 + window, 0, 1, 0, 1);
        }
        c.go(BLOCK);
        c.law(0, 1);
        c.years(60);
    }

    int minutesOf(int day) {
        int[] mixed = {3, 1, 0, 0, 0, 0, 0, 2};
        return this == MIXED ? mixed[day] : this == FULL && day == 0 ? 24 : 0;
    }

    /**
     * What can be seen of a court of this scene but its REFUSALS. There are several looks, each for
     * a court of its own, as no object is asked more than 512 times.
     */
    Map<String, Integer> look(SunCourt c, int which) {
        Map<String, Integer> seen = new LinkedHashMap<>();
        switch (which) {
            case 0: lookAtThings(c, seen); break;
            case 1: lookAtLight(c, seen); break;
            default: lookByChanging(c, seen); break;
        }
        return seen;
    }

    private static void lookAtThings(SunCourt c, Map<String, Integer> seen) {
        for (int what = 0; what < 6; what++) {
            see(seen, c, "count", what);
        }
        int blocks = c.count(1);
        int windows = c.count(2);
        for (int block = 0; block < blocks; block++) {
            for (int what = 0; what < 6; what++) {
                see(seen, c, "blockOf", block, what);
            }
        }
        for (int window = 0; window < windows; window++) {
            for (int what = 0; what < 6; what++) {
                see(seen, c, "windowOf", window, what);
            }
        }
    }

    private void lookAtLight(SunCourt c, Map<String, Integer> seen) {
        int windows = Math.min(4, c.count(2));
        int blocks = Math.min(10, c.count(1));
        for (int window = 0; window < windows; window++) {
            for (int day = 0; day < 8; day++) {
                see(seen, c, "hours", window, day);
                for (int minute = 0; minute < minutesOf(day); minute++) {
                    see(seen, c, "sun", window, day, minute);
                    see(seen, c, "taker", window, 0, day, minute);
                }
            }
            for (int block = 0; block < blocks; block++) {
                see(seen, c, "takes", window, 0, block);
            }
        }
    }

    /** What shows itself only when it is changed: its answers are what was, or the next number. */
    private static void lookByChanging(SunCourt c, Map<String, Integer> seen) {
        int windows = c.count(2);
        for (int window = 0; window < Math.min(4, windows); window++) {
            see(seen, c, "loss", PLANNED, window, 0);
        }
        see(seen, c, "high", PLANNED);
        see(seen, c, "breach", PLANNED, 200);
        see(seen, c, "part", 4);
        for (int day = 0; day < 8; day++) {
            see(seen, c, "law", day, 0);
            see(seen, c, "share", TREE, day, 8);
            see(seen, c, "share", GONE_TREE, day, 8);
            see(seen, c, "minute", day, 1, 1, 1);
        }
        see(seen, c, "most", TREE, 200);
        see(seen, c, "most", GONE_TREE, 200);
        for (int window = 0; window < windows; window++) {
            see(seen, c, "release", window);
        }
        see(seen, c, "block", 0, 0, 1, 0, 1, 0, 1);
        see(seen, c, "window", 0, 0, 0, 1, 0, 1);
        see(seen, c, "years", 1);
        see(seen, c, "cut", TREE, 3);
        see(seen, c, "build", PLANNED);
        see(seen, c, "go", BLOCK);
    }

    private static void see(Map<String, Integer> seen, SunCourt c, String method, int... numbers) {
        seen.put(text(method, numbers), ask(c, method, numbers));
    }

    static String text(String method, int... numbers) {
        StringBuilder text = new StringBuilder(method).append('(');
        for (int i = 0; i < numbers.length; i++) {
            text.append(i == 0 ? "" : ", ").append(numbers[i]);
        }
        return text.append(')').toString();
    }

    /** What a call answers, a boolean as 1 or 0. */
    static int ask(SunCourt c, String method, int... numbers) {
        Object[] arguments = new Object[numbers.length];
        for (int i = 0; i < numbers.length; i++) {
            arguments[i] = numbers[i];
        }
        try {
            Object answer = find(method).invoke(c, arguments);
            return answer instanceof Boolean ? ((Boolean) answer ? 1 : 0) : (Integer) answer;
        } catch (IllegalAccessException | InvocationTargetException fault) {
            throw new IllegalStateException(text(method, numbers), fault);
        }
    }

    private static Method find(String name) {
        for (Method method : SunCourt.class.getMethods()) {
            if (method.getName().equals(name)) {
                return method;
            }
        }
        throw new IllegalStateException("no method " + name);
    }
}
