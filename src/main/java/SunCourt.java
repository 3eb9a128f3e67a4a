import java.util.Arrays;

/**
 * A court for light: blocks, trees and glass through years of told suns, which window has sun at
 * which minute, who takes it, hours as the law counts them, rights by years, and how high one may
 * still build so that none loses.
 */
public final class SunCourt {
    private static final int FINE = 0;
    private static final int NOBODY = -1;
    private static final int OTHER = -2;
    private static final int STATE = -3;
    private static final int BELOW = -4;
    private static final int ROOM = -6;
    private static final int REFUSAL_NUMBERS = 6;
    private static final int AS_TOLD = 1000000;

    private static final int NONE = -9;
    private static final int NO_SUN = -8;
    private static final int UNKNOWN = -1;

    private static final int DAYS = 8;
    private static final int MOST_MINUTES = 24;
    private static final int MOST_BLOCKS = 40;
    private static final int MOST_WINDOWS = 20;
    private static final int MOST_CELLS = 64;
    private static final int MOST_YEARS = 60;
    private static final int MOST_HOURS = 24;
    private static final int GREATEST_PLACE = 200;
    private static final int GREATEST_WAY = 50;
    private static final int EIGHTHS = 8;
    private static final int FULL_LIGHT = 4096;
    private static final int YEARS_TO_KEEP = 3;

    private static final int SOLID = 0;
    private static final int TREE = 1;
    private static final int GLASS = 2;
    private static final int PLANNED = 3;

    private static final int SIDES = 4;
    private static final int AXES = 3;
    private static final int X = 0;
    private static final int Y = 1;
    private static final int Z = 2;

    private final Sky sky = new Sky();
    private final Blocks blocks = new Blocks();
    private final Windows windows = new Windows();
    private final Beam beam = new Beam();
    private final Shade shade = new Shade();
    private final int[] leastHours = new int[DAYS];
    private final int[] refusals = new int[REFUSAL_NUMBERS + 1];

    /** For each WINDOW and DAY a bit for each MINUTE at which it is LIT, or UNKNOWN. */
    private final int[] litBits = new int[MOST_WINDOWS * DAYS];
    private int litPart = 4;
    private int year = 0;

    public SunCourt() {
        Arrays.fill(litBits, UNKNOWN);
    }

    public int minute(int day, int x, int y, int z) {
        if (!isDay(day)) {
            return refuse(NOBODY);
        }
        if (x < -GREATEST_WAY || y < -GREATEST_WAY || z < 1) {
            return refuse(BELOW);
        }
        if (x > GREATEST_WAY || y > GREATEST_WAY || z > GREATEST_WAY || sky.isFull(day)) {
            return refuse(ROOM);
        }
        forgetLight();
        return sky.add(day, x, y, z);
    }

    public int block(int kind, int x0, int x1, int y0, int y1, int foot, int top) {
        if (kind < SOLID || kind > PLANNED) {
            return refuse(OTHER);
        }
        // The greater of two places needs no look of its own at 0, nor the lesser at the greatest.
        if (x0 < 0 || y0 < 0 || foot < 0 || x1 <= x0 || y1 <= y0 || top <= foot) {
            return refuse(BELOW);
        }
        if (x1 > GREATEST_PLACE || y1 > GREATEST_PLACE || top > GREATEST_PLACE || blocks.isFull()) {
            return refuse(ROOM);
        }
        forgetLight();
        return blocks.add(kind, x0, x1, y0, y1, foot, top);
    }

    public int share(int block, int day, int eighths) {
        int fault = isDay(day) ? blocks.treeFault(block) : NOBODY;
        if (fault != FINE) {
            return refuse(fault);
        }
        if (eighths < 0) {
            return refuse(BELOW);
        }
        if (eighths > EIGHTHS) {
            return refuse(ROOM);
        }
        int before = blocks.through[block * DAYS + day];
        blocks.through[block * DAYS + day] = eighths;
        forgetLight();
        return before;
    }

    public int most(int block, int v) {
        int fault = blocks.treeFault(block);
        if (fault != FINE) {
            return refuse(fault);
        }
        if (v < blocks.topOf(block)) {
            return refuse(BELOW);
        }
        if (v > GREATEST_PLACE) {
            return refuse(ROOM);
        }
        int before = blocks.greatestTop[block];
        blocks.greatestTop[block] = v;
        return before;
    }

    public int cut(int block, int v) {
        int fault = blocks.treeFault(block);
        if (fault != FINE) {
            return refuse(fault);
        }
        if (blocks.gone[block]) {
            return refuse(STATE);
        }
        if (v <= blocks.footOf(block)) {
            return refuse(BELOW);
        }
        int before = blocks.topOf(block);
        if (v > before) {
            return refuse(ROOM);
        }
        blocks.setTop(block, v);
        forgetLight();
        return before;
    }

    public int build(int block) {
        int fault = blocks.planFault(block);
        if (fault != FINE) {
            return refuse(fault);
        }
        blocks.there[block] = true;
        forgetLight();
        return 1;
    }

    public int go(int block) {
        if (!blocks.has(block)) {
            return refuse(NOBODY);
        }
        if (blocks.gone[block]) {
            return refuse(STATE);
        }
        blocks.gone[block] = true;
        blocks.there[block] = false;
        forgetLight();
        return 1;
    }

    public int window(int side, int at, int u0, int u1, int z0, int z1) {
        if (side < 0 || side >= SIDES) {
            return refuse(OTHER);
        }
        if (at < 0 || u0 < 0 || z0 < 0 || u1 <= u0 || z1 <= z0) {
            return refuse(BELOW);
        }
        if (at > GREATEST_PLACE || u1 > GREATEST_PLACE || z1 > GREATEST_PLACE) {
            return refuse(ROOM);
        }
        if ((u1 - u0) * (z1 - z0) > MOST_CELLS || windows.isFull()) {
            return refuse(ROOM);
        }
        return windows.add(side, at, u0, u1, z0, z1);
    }

    public int part(int eighths) {
        if (eighths < 1) {
            return refuse(BELOW);
        }
        if (eighths > EIGHTHS) {
            return refuse(ROOM);
        }
        int before = litPart;
        litPart = eighths;
        forgetLight();
        return before;
    }

    public int law(int day, int least) {
        if (!isDay(day)) {
            return refuse(NOBODY);
        }
        if (least < 0) {
            return refuse(BELOW);
        }
        if (least > MOST_HOURS) {
            return refuse(ROOM);
        }
        int before = leastHours[day];
        leastHours[day] = least;
        return before;
    }

    public int sun(int window, int day, int minute) {
        if (!windows.has(window) || !sky.has(day, minute)) {
            return refuse(NOBODY);
        }
        return sunAt(window, day, minute, NONE, 0);
    }

    public int light(int window, int cell, int day, int minute) {
        if (!windows.hasCell(window, cell) || !sky.has(day, minute)) {
            return refuse(NOBODY);
        }
        if (!aim(window, day, minute)) {
            return 0;
        }
        windows.standOn(window, cell, beam);
        shade.gather(blocks, beam, day, NONE, 0);
        return shade.lightAlong(blocks, beam);
    }

    public int taker(int window, int cell, int day, int minute) {
        if (!windows.hasCell(window, cell) || !sky.has(day, minute)) {
            return refuseAsTold(NOBODY);
        }
        if (!aim(window, day, minute)) {
            return NO_SUN;
        }
        windows.standOn(window, cell, beam);
        shade.gather(blocks, beam, day, NONE, 0);
        return shade.nearestAlong(blocks, beam);
    }

    public int takes(int window, int day, int block) {
        if (!windows.has(window) || !isDay(day) || !blocks.has(block)) {
            return refuse(NOBODY);
        }
        int times = 0;
        for (int minute = 0; minute < sky.minutes[day]; minute++) {
            times += cellsTaken(window, day, minute, block);
        }
        return times;
    }

    public int hours(int window, int day) {
        if (!windows.has(window) || !isDay(day)) {
            return refuse(NOBODY);
        }
        return Integer.bitCount(litMinutes(window, day));
    }

    public int loss(int block, int window, int day) {
        int fault = windows.has(window) && isDay(day) ? blocks.planFault(block) : NOBODY;
        if (fault != FINE) {
            return refuseAsTold(fault);
        }
        int lit = litMinutes(window, day);
        return Integer.bitCount(lit) - hoursWith(window, day, lit, block, blocks.topOf(block));
    }

    public int high(int block) {
        int fault = blocks.planFault(block);
        if (fault != FINE) {
            return refuse(fault);
        }
        int top = blocks.footOf(block);
        // A higher TOP never gives light back, so halved steps find the greatest that harms none.
        for (int step = 128; step > 0; step /= 2) {
            if (top + step <= GREATEST_PLACE && firstBreach(block, top + step) == NONE) {
                top += step;
            }
        }
        return top;
    }

    public int breach(int block, int top) {
        int fault = blocks.planFault(block);
        if (fault != FINE) {
            return refuseAsTold(fault);
        }
        if (top <= blocks.footOf(block)) {
            return refuseAsTold(BELOW);
        }
        if (top > GREATEST_PLACE) {
            return refuseAsTold(ROOM);
        }
        return firstBreach(block, top);
    }

    public int years(int n) {
        if (n < 1) {
            return refuse(BELOW);
        }
        if (n > MOST_YEARS - year) {
            return refuse(ROOM);
        }
        for (int i = 0; i < n; i++) {
            passYear();
        }
        return year;
    }

    public boolean release(int window) {
        if (!windows.has(window) || windows.released[window]) {
            return false;
        }
        windows.released[window] = true;
        return true;
    }

    public int blockOf(int block, int what) {
        if (!blocks.has(block)) {
            return refuseAsTold(NOBODY);
        }
        switch (what) {
            case 0: return blocks.kind[block];
            case 1: return blocks.footOf(block);
            case 2: return blocks.topOf(block);
            case 3: return blocks.kind[block] == TREE ? blocks.greatestTop[block] : NONE;
            case 4: return blocks.there[block] ? 1 : 0;
            case 5: return blocks.gone[block] ? 1 : 0;
            default: return refuseAsTold(OTHER);
        }
    }

    public int windowOf(int window, int what) {
        if (!windows.has(window)) {
            return refuseAsTold(NOBODY);
        }
        switch (what) {
            case 0: return windows.side[window];
            case 1: return windows.cellsOf(window);
            case 2: return windows.right[window];
            case 3: return firstFall(window) == NONE ? 1 : 0;
            case 4: return windows.isKept(window) ? 1 : 0;
            case 5: return firstFall(window);
            default: return refuseAsTold(OTHER);
        }
    }

    public int count(int what) {
        if (what > 10 && what <= 10 + REFUSAL_NUMBERS) {
            return refusals[what - 10];
        }
        switch (what) {
            case 0: return year;
            case 1: return blocks.size;
            case 2: return windows.size;
            case 3: return sky.minutesInAll();
            case 4: return lawfulWindows();
            case 5: return windows.keptOnes();
            default: return NONE;
        }
    }

    private static boolean isDay(int day) {
        return day >= 0 && day < DAYS;
    }

    private int refuse(int fault) {
        if (fault < 0 && fault >= -REFUSAL_NUMBERS) {
            refusals[-fault]++;
        }
        return fault;
    }

    private int refuseAsTold(int fault) {
        return AS_TOLD - refuse(fault);
    }

    private void forgetLight() {
        Arrays.fill(litBits, UNKNOWN);
    }

    /** Turns the beam to the SUN of a MINUTE: whether the WINDOW has it in front. */
    private boolean aim(int window, int day, int minute) {
        sky.turn(day, minute, beam);
        return windows.faces(window, beam);
    }

    /** SUN of a WINDOW with a PLANNED BLOCK of that TOP there; as it is, if planned is NONE. */
    private int sunAt(int window, int day, int minute, int planned, int top) {
        if (!aim(window, day, minute)) {
            return 0;
        }
        int cells = windows.cellsOf(window);
        windows.standOnAll(window, beam);
        shade.gather(blocks, beam, day, planned, top);
        if (shade.size == 0) {
            return cells * FULL_LIGHT;
        }
        int sum = 0;
        for (int cell = 0; cell < cells; cell++) {
            windows.standOn(window, cell, beam);
            sum += shade.lightAlong(blocks, beam);
        }
        return sum;
    }

    private int cellsTaken(int window, int day, int minute, int block) {
        if (!aim(window, day, minute)) {
            return 0;
        }
        windows.standOnAll(window, beam);
        shade.gather(blocks, beam, day, NONE, 0);
        int taken = 0;
        for (int cell = 0; cell < windows.cellsOf(window); cell++) {
            windows.standOn(window, cell, beam);
            if (shade.nearestAlong(blocks, beam) == block) {
                taken++;
            }
        }
        return taken;
    }

    private boolean isLitBy(int window, int sun) {
        return EIGHTHS * sun >= litPart * FULL_LIGHT * windows.cellsOf(window);
    }

    /** A bit for each MINUTE of the DAY at which the WINDOW is LIT, all as it is. */
    private int litMinutes(int window, int day) {
        int known = litBits[window * DAYS + day];
        if (known != UNKNOWN) {
            return known;
        }
        int bits = 0;
        for (int minute = 0; minute < sky.minutes[day]; minute++) {
            if (isLitBy(window, sunAt(window, day, minute, NONE, 0))) {
                bits |= 1 << minute;
            }
        }
        litBits[window * DAYS + day] = bits;
        return bits;
    }

    /** HOURS with a PLANNED BLOCK there: it lights no MINUTE, so only those LIT without it count. */
    private int hoursWith(int window, int day, int lit, int planned, int top) {
        int hours = 0;
        for (int minute = 0; minute < sky.minutes[day]; minute++) {
            boolean wasLit = (lit >> minute & 1) == 1;
            if (wasLit && isLitBy(window, sunAt(window, day, minute, planned, top))) {
                hours++;
            }
        }
        return hours;
    }

    /** The first DAY on which a WINDOW falls; NONE if it is LAWFUL. */
    private int firstFall(int window) {
        for (int day = 0; day < DAYS; day++) {
            int least = leastHours[day];
            if (least > 0 && Integer.bitCount(litMinutes(window, day)) < least) {
                return day;
            }
        }
        return NONE;
    }

    private int firstFallWith(int window, int planned, int top) {
        for (int day = 0; day < DAYS; day++) {
            int least = leastHours[day];
            if (least > 0) {
                int lit = litMinutes(window, day);
                if (hoursWith(window, day, lit, planned, top) < least) {
                    return day;
                }
            }
        }
        return NONE;
    }

    private int firstBreach(int planned, int top) {
        for (int window = 0; window < windows.size; window++) {
            if (windows.isKept(window) && firstFall(window) == NONE) {
                int day = firstFallWith(window, planned, top);
                if (day != NONE) {
                    return DAYS * window + day;
                }
            }
        }
        return NONE;
    }

    private int lawfulWindows() {
        int lawful = 0;
        for (int window = 0; window < windows.size; window++) {
            if (firstFall(window) == NONE) {
                lawful++;
            }
        }
        return lawful;
    }

    private void passYear() {
        year++;
        if (blocks.growTrees()) {
            forgetLight();
        }
        for (int window = 0; window < windows.size; window++) {
            boolean lawful = firstFall(window) == NONE;
            windows.right[window] = lawful ? windows.right[window] + 1 : 0;
        }
    }

    /** The MINUTES of all DAYS, each with the SUN's way. */
    private static final class Sky {
        final int[] minutes = new int[DAYS];
        private final int[] ways = new int[DAYS * MOST_MINUTES * AXES];

        boolean has(int day, int minute) {
            return isDay(day) && minute >= 0 && minute < minutes[day];
        }

        boolean isFull(int day) {
            return minutes[day] >= MOST_MINUTES;
        }

        int add(int day, int x, int y, int z) {
            int number = minutes[day];
            int row = (day * MOST_MINUTES + number) * AXES;
            ways[row + X] = x;
            ways[row + Y] = y;
            ways[row + Z] = z;
            minutes[day] = number + 1;
            return number;
        }

        int minutesInAll() {
            int sum = 0;
            for (int day = 0; day < DAYS; day++) {
                sum += minutes[day];
            }
            return sum;
        }

        void turn(int day, int minute, Beam beam) {
            int row = (day * MOST_MINUTES + minute) * AXES;
            for (int axis = 0; axis < AXES; axis++) {
                beam.way[axis] = ways[row + axis];
            }
        }
    }

    /** The BLOCKS of every KIND, a row of each thing that is told of them. */
    private static final class Blocks {
        int size = 0;
        final int[] kind = new int[MOST_BLOCKS];
        final int[] lesser = new int[MOST_BLOCKS * AXES];
        final int[] greater = new int[MOST_BLOCKS * AXES];
        final int[] greatestTop = new int[MOST_BLOCKS];

        /** How many eighths pass on each DAY: a TREE's SHARE, 8 for GLASS, 0 for the others. */
        final int[] through = new int[MOST_BLOCKS * DAYS];
        final boolean[] there = new boolean[MOST_BLOCKS];
        final boolean[] gone = new boolean[MOST_BLOCKS];

        boolean has(int block) {
            return block >= 0 && block < size;
        }

        boolean isFull() {
            return size >= MOST_BLOCKS;
        }

        int add(int ofKind, int x0, int x1, int y0, int y1, int foot, int top) {
            int number = size;
            kind[number] = ofKind;
            lesser[number * AXES + X] = x0;
            greater[number * AXES + X] = x1;
            lesser[number * AXES + Y] = y0;
            greater[number * AXES + Y] = y1;
            lesser[number * AXES + Z] = foot;
            greater[number * AXES + Z] = top;
            greatestTop[number] = GREATEST_PLACE;
            there[number] = ofKind != PLANNED;
            for (int day = 0; day < DAYS; day++) {
                through[number * DAYS + day] = ofKind == GLASS ? EIGHTHS : 0;
            }
            size = number + 1;
            return number;
        }

        int footOf(int block) {
            return lesser[block * AXES + Z];
        }

        int topOf(int block) {
            return greater[block * AXES + Z];
        }

        void setTop(int block, int top) {
            greater[block * AXES + Z] = top;
        }

        int treeFault(int block) {
            if (!has(block)) {
                return NOBODY;
            }
            return kind[block] == TREE ? FINE : OTHER;
        }

        /** Why a BLOCK is none that is still only PLANNED. */
        int planFault(int block) {
            if (!has(block)) {
                return NOBODY;
            }
            if (kind[block] != PLANNED) {
                return OTHER;
            }
            return gone[block] || there[block] ? STATE : FINE;
        }

        /** A YEAR's growth: whether some TREE grew. */
        boolean growTrees() {
            boolean grew = false;
            for (int block = 0; block < size; block++) {
                if (kind[block] == TREE && topOf(block) < greatestTop[block]) {
                    setTop(block, topOf(block) + 1);
                    grew = true;
                }
            }
            return grew;
        }
    }

    /** The WINDOWS, their CELLS and their RIGHT. */
    private static final class Windows {
        int size = 0;
        final int[] side = new int[MOST_WINDOWS];
        private final int[] wallAxis = new int[MOST_WINDOWS];
        private final int[] wall = new int[MOST_WINDOWS];
        private final int[] leastU = new int[MOST_WINDOWS];
        private final int[] leastZ = new int[MOST_WINDOWS];
        private final int[] width = new int[MOST_WINDOWS];
        private final int[] height = new int[MOST_WINDOWS];
        final int[] right = new int[MOST_WINDOWS];
        final boolean[] released = new boolean[MOST_WINDOWS];

        boolean has(int window) {
            return window >= 0 && window < size;
        }

        boolean hasCell(int window, int cell) {
            return has(window) && cell >= 0 && cell < cellsOf(window);
        }

        boolean isFull() {
            return size >= MOST_WINDOWS;
        }

        int add(int toSide, int at, int u0, int u1, int z0, int z1) {
            int number = size;
            side[number] = toSide;
            wallAxis[number] = toSide < 2 ? X : Y;
            wall[number] = at;
            leastU[number] = u0;
            leastZ[number] = z0;
            width[number] = u1 - u0;
            height[number] = z1 - z0;
            size = number + 1;
            return number;
        }

        int cellsOf(int window) {
            return width[window] * height[window];
        }

        boolean isKept(int window) {
            return right[window] >= YEARS_TO_KEEP && !released[window];
        }

        int keptOnes() {
            int kept = 0;
            for (int window = 0; window < size; window++) {
                if (isKept(window)) {
                    kept++;
                }
            }
            return kept;
        }

        boolean faces(int window, Beam beam) {
            int out = beam.way[wallAxis[window]];
            return side[window] % 2 == 0 ? out > 0 : out < 0;
        }

        /** Lets the beam start at the POINT of a CELL. */
        void standOn(int window, int cell, Beam beam) {
            // No WINDOW is of width 0; the divisor is looked at all the same.
            int row = Math.max(1, width[window]);
            int u = middle(leastU[window] + cell % row);
            int z = middle(leastZ[window] + cell / row);
            int axis = wallAxis[window];
            beam.startAt(axis, 2 * wall[window], 2 * wall[window]);
            beam.startAt(X + Y - axis, u, u);
            beam.startAt(Z, z, z);
        }

        /** Lets the beam start anywhere between the POINTS of a WINDOW. */
        void standOnAll(int window, Beam beam) {
            int u = leastU[window];
            int z = leastZ[window];
            int axis = wallAxis[window];
            beam.startAt(axis, 2 * wall[window], 2 * wall[window]);
            beam.startAt(X + Y - axis, middle(u), middle(u + width[window] - 1));
            beam.startAt(Z, middle(z), middle(z + height[window] - 1));
        }

        /** The middle of the unit from that place on, doubled so that it is whole. */
        private static int middle(int place) {
            return 2 * place + 1;
        }
    }

    /**
     * The way to the SUN from a POINT, or from all between the POINTS of a WINDOW. Starts are
     * doubled, so that middles are whole; the times are doubled with them, which changes no order.
     */
    private static final class Beam {
        final int[] way = new int[AXES];
        private final int[] startLeast = new int[AXES];
        private final int[] startMost = new int[AXES];

        /** The least time in the BLOCK that was met last, as a fraction. */
        int enterOver = 0;
        int enterUnder = 1;

        void startAt(int axis, int least, int most) {
            startLeast[axis] = least;
            startMost[axis] = most;
        }

        /**
         * Whether a BLOCK of that TOP stands before the start. From many starts at once the answer
         * may be yes where none of them is met, but never no where one is.
         */
        boolean meets(Blocks blocks, int block, int top) {
            enterOver = 0;
            enterUnder = 1;
            int leaveOver = 1;
            int leaveUnder = 0;
            for (int axis = 0; axis < AXES; axis++) {
                int least = 2 * blocks.lesser[block * AXES + axis];
                int most = 2 * (axis == Z ? top : blocks.greater[block * AXES + axis]);
                int step = way[axis];
                if (step == 0) {
                    if (startMost[axis] <= least || startLeast[axis] >= most) {
                        return false;
                    }
                    continue;
                }
                int under = step > 0 ? step : -step;
                int enter = step > 0 ? least - startMost[axis] : startLeast[axis] - most;
                int leave = step > 0 ? most - startLeast[axis] : startMost[axis] - least;
                if (enter * enterUnder > enterOver * under) {
                    enterOver = enter;
                    enterUnder = under;
                }
                if (leave * leaveUnder < leaveOver * under) {
                    leaveOver = leave;
                    leaveUnder = under;
                }
            }
            return enterOver * leaveUnder < leaveOver * enterUnder;
        }
    }

    /** The BLOCKS that may stand before a beam's start and hold light back, by numbers. */
    private static final class Shade {
        int size = 0;
        private final int[] number = new int[MOST_BLOCKS];
        private final int[] top = new int[MOST_BLOCKS];
        private final int[] passes = new int[MOST_BLOCKS];

        /** Takes all that are there, and the PLANNED one (NONE for none) with its told TOP. */
        void gather(Blocks blocks, Beam beam, int day, int planned, int plannedTop) {
            size = 0;
            for (int block = 0; block < blocks.size; block++) {
                boolean told = block == planned;
                int eighths = blocks.through[block * DAYS + day];
                int itsTop = told ? plannedTop : blocks.topOf(block);
                boolean holdsBack = (told || blocks.there[block]) && eighths < EIGHTHS;
                if (holdsBack && beam.meets(blocks, block, itsTop)) {
                    number[size] = block;
                    top[size] = itsTop;
                    passes[size] = eighths;
                    size++;
                }
            }
        }

        int lightAlong(Blocks blocks, Beam beam) {
            int light = FULL_LIGHT;
            for (int i = 0; i < size && light > 0; i++) {
                if (beam.meets(blocks, number[i], top[i])) {
                    light = light * passes[i] / EIGHTHS;
                }
            }
            return light;
        }

        int nearestAlong(Blocks blocks, Beam beam) {
            int nearest = NONE;
            int over = 0;
            int under = 1;
            for (int i = 0; i < size; i++) {
                if (beam.meets(blocks, number[i], top[i])) {
                    if (nearest == NONE || beam.enterOver * under < over * beam.enterUnder) {
                        nearest = number[i];
                        over = beam.enterOver;
                        under = beam.enterUnder;
                    }
                }
            }
            return nearest;
        }
    }
}
