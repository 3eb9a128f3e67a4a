import java.util.ArrayList;
import java.util.List;
import java.util.TreeSet;

/**
 * The document once more, as slow and as plain as can be, to compare SunCourt with: nothing is
 * kept from call to call, a BLOCK is found by trying places on the way, HIGH by trying every TOP.
 */
final class PlainCourt {
    static final class Thing {
        int kind;
        int[] low;
        int[] high;
        int most = 200;
        int[] share = new int[8];
        boolean built;
        boolean gone;

        boolean isThere() {
            return !gone && (kind != 3 || built);
        }
    }

    static final class Pane {
        int side;
        int at;
        int u0;
        int u1;
        int z0;
        int z1;
        int right;
        boolean released;

        int cells() {
            return (u1 - u0) * (z1 - z0);
        }

        boolean isKept() {
            return right >= 3 && !released;
        }
    }

    private final List<List<int[]>> days = new ArrayList<>();
    private final List<Thing> things = new ArrayList<>();
    private final List<Pane> panes = new ArrayList<>();
    private final int[] laws = new int[8];
    private final int[] refused = new int[7];
    private int part = 4;
    private int year = 0;

    PlainCourt() {
        for (int day = 0; day < 8; day++) {
            days.add(new ArrayList<>());
        }
    }

    private int no(int number) {
        refused[-number]++;
        return number;
    }

    private int told(int number) {
        no(number);
        return 1000000 + -number;
    }

    private Thing thing(int n) {
        return n >= 0 && n < things.size() ? things.get(n) : null;
    }

    private Pane pane(int n) {
        return n >= 0 && n < panes.size() ? panes.get(n) : null;
    }

    private List<int[]> day(int n) {
        return n >= 0 && n < 8 ? days.get(n) : null;
    }

    private int[] way(int day, int minute) {
        List<int[]> all = day(day);
        return all != null && minute >= 0 && minute < all.size() ? all.get(minute) : null;
    }

    int minute(int day, int x, int y, int z) {
        if (day(day) == null) return no(-1);
        if (x < -50 || y < -50 || z < 1) return no(-4);
        if (x > 50 || y > 50 || z > 50 || day(day).size() == 24) return no(-6);
        day(day).add(new int[] {x, y, z});
        return day(day).size() - 1;
    }

    int block(int kind, int x0, int x1, int y0, int y1, int foot, int top) {
        if (kind < 0 || kind > 3) return no(-2);
        int[] places = {x0, x1, y0, y1, foot, top};
        for (int place : places) if (place < 0) return no(-4);
        if (x1 <= x0 || y1 <= y0 || top <= foot) return no(-4);
        for (int place : places) if (place > 200) return no(-6);
        if (things.size() == 40) return no(-6);
        Thing t = new Thing();
        t.kind = kind;
        t.low = new int[] {x0, y0, foot};
        t.high = new int[] {x1, y1, top};
        things.add(t);
        return things.size() - 1;
    }

    int share(int block, int day, int eighths) {
        Thing t = thing(block);
        if (t == null || day(day) == null) return no(-1);
        if (t.kind != 1) return no(-2);
        if (eighths < 0) return no(-4);
        if (eighths > 8) return no(-6);
        int was = t.share[day];
        t.share[day] = eighths;
        return was;
    }

    int most(int block, int v) {
        Thing t = thing(block);
        if (t == null) return no(-1);
        if (t.kind != 1) return no(-2);
        if (v < t.high[2]) return no(-4);
        if (v > 200) return no(-6);
        int was = t.most;
        t.most = v;
        return was;
    }

    int cut(int block, int v) {
        Thing t = thing(block);
        if (t == null) return no(-1);
        if (t.kind != 1) return no(-2);
        if (t.gone) return no(-3);
        if (v <= t.low[2]) return no(-4);
        if (v > t.high[2]) return no(-6);
        int was = t.high[2];
        t.high[2] = v;
        return was;
    }

    int build(int block) {
        Thing t = thing(block);
        if (t == null) return no(-1);
        if (t.kind != 3) return no(-2);
        if (t.gone || t.built) return no(-3);
        t.built = true;
        return 1;
    }

    int go(int block) {
        Thing t = thing(block);
        if (t == null) return no(-1);
        if (t.gone) return no(-3);
        t.gone = true;
        return 1;
    }

    int window(int side, int at, int u0, int u1, int z0, int z1) {
        if (side < 0 || side > 3) return no(-2);
        int[] places = {at, u0, u1, z0, z1};
        for (int place : places) if (place < 0) return no(-4);
        if (u1 <= u0 || z1 <= z0) return no(-4);
        for (int place : places) if (place > 200) return no(-6);
        if ((u1 - u0) * (z1 - z0) > 64 || panes.size() == 20) return no(-6);
        Pane p = new Pane();
        p.side = side;
        p.at = at;
        p.u0 = u0;
        p.u1 = u1;
        p.z0 = z0;
        p.z1 = z1;
        panes.add(p);
        return panes.size() - 1;
    }

    int part(int eighths) {
        if (eighths < 1) return no(-4);
        if (eighths > 8) return no(-6);
        int was = part;
        part = eighths;
        return was;
    }

    int law(int day, int least) {
        if (day(day) == null) return no(-1);
        if (least < 0) return no(-4);
        if (least > 24) return no(-6);
        int was = laws[day];
        laws[day] = least;
        return was;
    }

    int sun(int window, int day, int minute) {
        if (pane(window) == null || way(day, minute) == null) return no(-1);
        return sunOf(pane(window), day, way(day, minute), null);
    }

    int light(int window, int cell, int day, int minute) {
        if (!hasCell(window, cell) || way(day, minute) == null) return no(-1);
        return lightOf(pane(window), cell, day, way(day, minute), null);
    }

    int taker(int window, int cell, int day, int minute) {
        if (!hasCell(window, cell) || way(day, minute) == null) return told(-1);
        return takerOf(pane(window), cell, day, way(day, minute));
    }

    int takes(int window, int day, int block) {
        if (pane(window) == null || day(day) == null || thing(block) == null) return no(-1);
        int n = 0;
        for (int[] way : day(day)) {
            for (int cell = 0; cell < pane(window).cells(); cell++) {
                if (takerOf(pane(window), cell, day, way) == block) n++;
            }
        }
        return n;
    }

    int hours(int window, int day) {
        if (pane(window) == null || day(day) == null) return no(-1);
        return hoursOf(pane(window), day, null);
    }

    int loss(int block, int window, int day) {
        Thing t = thing(block);
        if (t == null || pane(window) == null || day(day) == null) return told(-1);
        if (t.kind != 3) return told(-2);
        if (t.gone || t.built) return told(-3);
        return hoursOf(pane(window), day, null) - hoursOf(pane(window), day, t);
    }

    int high(int block) {
        Thing t = thing(block);
        if (t == null) return no(-1);
        if (t.kind != 3) return no(-2);
        if (t.gone || t.built) return no(-3);
        for (int top = 200; top > t.low[2]; top--) {
            if (breachOf(t, top) == -9) return top;
        }
        return t.low[2];
    }

    int breach(int block, int top) {
        Thing t = thing(block);
        if (t == null) return told(-1);
        if (t.kind != 3) return told(-2);
        if (t.gone || t.built) return told(-3);
        if (top <= t.low[2]) return told(-4);
        if (top > 200) return told(-6);
        return breachOf(t, top);
    }

    int years(int n) {
        if (n < 1) return no(-4);
        if ((long) year + n > 60) return no(-6);
        for (int i = 0; i < n; i++) {
            year++;
            for (Thing t : things) if (t.kind == 1 && t.high[2] < t.most) t.high[2]++;
            for (Pane p : panes) p.right = fallOf(p, null) == -9 ? p.right + 1 : 0;
        }
        return year;
    }

    boolean release(int window) {
        if (pane(window) == null || pane(window).released) return false;
        pane(window).released = true;
        return true;
    }

    int blockOf(int block, int what) {
        Thing t = thing(block);
        if (t == null) return told(-1);
        if (what < 0 || what > 5) return told(-2);
        int[] all = {t.kind, t.low[2], t.high[2], t.kind == 1 ? t.most : -9, t.isThere() ? 1 : 0, t.gone ? 1 : 0};
        return all[what];
    }

    int windowOf(int window, int what) {
        Pane p = pane(window);
        if (p == null) return told(-1);
        if (what < 0 || what > 5) return told(-2);
        int fall = fallOf(p, null);
        int[] all = {p.side, p.cells(), p.right, fall == -9 ? 1 : 0, p.isKept() ? 1 : 0, fall};
        return all[what];
    }

    int count(int what) {
        if (what == 0) return year;
        if (what == 1) return things.size();
        if (what == 2) return panes.size();
        if (what == 3) return days.stream().mapToInt(List::size).sum();
        if (what == 4) return (int) panes.stream().filter(p -> fallOf(p, null) == -9).count();
        if (what == 5) return (int) panes.stream().filter(Pane::isKept).count();
        if (what >= 11 && what <= 16) return refused[what - 10];
        return -9;
    }

    int minutesOf(int day) {
        return day(day) == null ? 0 : day(day).size();
    }

    int cellsOf(int window) {
        return pane(window) == null ? 0 : pane(window).cells();
    }

    private boolean hasCell(int window, int cell) {
        return pane(window) != null && cell >= 0 && cell < pane(window).cells();
    }

    /** The POINT of a CELL, doubled. */
    private static int[] pointOf(Pane p, int cell) {
        int n = 0;
        for (int z = p.z0; z < p.z1; z++) {
            for (int u = p.u0; u < p.u1; u++) {
                if (n == cell) {
                    return p.side < 2
                        ? new int[] {2 * p.at, 2 * u + 1, 2 * z + 1}
                        : new int[] {2 * u + 1, 2 * p.at, 2 * z + 1};
                }
                n++;
            }
        }
        throw new IllegalStateException("no such cell");
    }

    private static boolean inFront(Pane p, int[] way) {
        switch (p.side) {
            case 0: return way[0] > 0;
            case 1: return way[0] < 0;
            case 2: return way[1] > 0;
            default: return way[1] < 0;
        }
    }

    /**
     * The least time at which the way is within a BLOCK, -1 for never. All times at which the way
     * crosses a plane of the BLOCK are whole in the unit used here, and between two of them it is
     * within all along or not at all: so the middles between them are tried.
     */
    private static long leastTime(Thing t, int[] point, int[] way) {
        long unit = 1;
        for (int axis = 0; axis < 3; axis++) unit *= Math.max(1, Math.abs(way[axis]));
        TreeSet<Long> crossings = new TreeSet<>();
        crossings.add(0L);
        for (int axis = 0; axis < 3; axis++) {
            if (way[axis] == 0) continue;
            crossings.add((2L * t.low[axis] - point[axis]) * unit / way[axis]);
            crossings.add((2L * t.high[axis] - point[axis]) * unit / way[axis]);
        }
        Long before = null;
        for (long crossing : crossings) {
            if (before != null && before >= 0) {
                long middle = before + crossing;
                boolean within = true;
                for (int axis = 0; axis < 3; axis++) {
                    long at = point[axis] * 2 * unit + way[axis] * middle;
                    within &= at > 4L * unit * t.low[axis] && at < 4L * unit * t.high[axis];
                }
                if (within) return before;
            }
            before = crossing;
        }
        return -1;
    }

    private int lightOf(Pane p, int cell, int day, int[] way, Thing planned) {
        if (!inFront(p, way)) return 0;
        int[] point = pointOf(p, cell);
        int light = 4096;
        for (Thing t : things) {
            boolean counts = t == planned || t.isThere() && t.kind != 2;
            if (!counts || leastTime(t, point, way) < 0) continue;
            if (t.kind != 1) return 0;
            light = light * t.share[day] / 8;
        }
        return light;
    }

    private int takerOf(Pane p, int cell, int day, int[] way) {
        if (!inFront(p, way)) return -8;
        int[] point = pointOf(p, cell);
        int best = -9;
        long bestTime = 0;
        for (int i = 0; i < things.size(); i++) {
            Thing t = things.get(i);
            if (!t.isThere() || t.kind == 2 || t.kind == 1 && t.share[day] == 8) continue;
            long time = leastTime(t, point, way);
            if (time >= 0 && (best == -9 || time < bestTime)) {
                best = i;
                bestTime = time;
            }
        }
        return best;
    }

    private int sunOf(Pane p, int day, int[] way, Thing planned) {
        int sum = 0;
        for (int cell = 0; cell < p.cells(); cell++) sum += lightOf(p, cell, day, way, planned);
        return sum;
    }

    private int hoursOf(Pane p, int day, Thing planned) {
        int n = 0;
        for (int[] way : days.get(day)) {
            if (8L * sunOf(p, day, way, planned) >= (long) part * 4096 * p.cells()) n++;
        }
        return n;
    }

    private int fallOf(Pane p, Thing planned) {
        for (int day = 0; day < 8; day++) {
            if (laws[day] > 0 && hoursOf(p, day, planned) < laws[day]) return day;
        }
        return -9;
    }

    private int breachOf(Thing t, int top) {
        int own = t.high[2];
        for (int i = 0; i < panes.size(); i++) {
            Pane p = panes.get(i);
            if (!p.isKept() || fallOf(p, null) != -9) continue;
            t.high[2] = top;
            int day = fallOf(p, t);
            t.high[2] = own;
            if (day != -9) return 8 * i + day;
        }
        return -9;
    }
}
