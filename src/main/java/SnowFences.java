import java.util.ArrayList;

/** Snow fences on a field with roads. */
public final class SnowFences {
    private static final int SIDE = 20;
    private static final int CELLS = 400;
    private static final int MOST_FENCES = 10;
    private static final int MOST_ROADS = 4;
    private static final int HIGHEST = 9;
    private static final int WIDEST_GAP = 3;
    private static final int STRONGEST = 9;
    private static final int MOST_HOURS = 24;
    private static final int DEEPEST_AFTER_FALL = 200;
    private static final int HOURS_OF_ADVICE = 4;
    private static final int LONGEST_WAIT = 48;
    private static final int NOTHING_LEFT_OUT = -1;

    private final ArrayList<Fence> fences;
    private final ArrayList<Road> roads;
    private final Strip whole;
    private final Ground ground;
    // What would be is played here, so that the real ground stays as it is.
    private final Ground trial;
    private final Screens screens;
    private int limit;
    private int supply;
    private int carriedOff;
    private int ploughed;
    private int windHours;

    public SnowFences() {
        fences = new ArrayList<Fence>();
        roads = new ArrayList<Road>();
        whole = new Strip(0, 0, CELLS, false);
        ground = new Ground();
        trial = new Ground();
        screens = new Screens();
        limit = 15;
    }

    // ---- fences and roads

    public int fence(int column, int row, int length, boolean down, int height, int gap)
            throws IllegalArgumentException, IndexOutOfBoundsException, IllegalStateException {
        if (length < 1 || length > SIDE) {
            throw new IllegalArgumentException("length is not 1 to 20");
        }
        needHeight(height);
        needGap(gap);
        needIndex(column, SIDE);
        needIndex(row, SIDE);
        needIndex((down ? row : column) + length - 1, SIDE);
        if (fences.size() >= MOST_FENCES) {
            throw new IllegalStateException("there are 10 fences");
        }
        fences.add(new Fence(column, row, new Strip(column, row, length, down), height, gap));
        return fences.size() - 1;
    }

    public int change(int fence, int height, int gap)
            throws IndexOutOfBoundsException, IllegalArgumentException {
        needIndex(fence, fences.size());
        needHeight(height);
        needGap(gap);
        Fence changed = fences.get(fence);
        int before = 10 * changed.height + changed.gap;
        changed.height = height;
        changed.gap = gap;
        return before;
    }

    public int take(int fence) throws IndexOutOfBoundsException {
        needIndex(fence, fences.size());
        fences.remove(fence);
        return fences.size();
    }

    public int road(boolean down, int index) throws IndexOutOfBoundsException, IllegalStateException {
        needIndex(index, SIDE);
        if (roads.size() >= MOST_ROADS) {
            throw new IllegalStateException("there are 4 roads");
        }
        roads.add(new Road(index, straight(down, index)));
        return roads.size() - 1;
    }

    public int setLimit(int limit) throws IllegalArgumentException {
        if (limit < 1 || limit > 60) {
            throw new IllegalArgumentException("limit is not 1 to 60");
        }
        int before = this.limit;
        this.limit = limit;
        return before;
    }

    public int setSupply(int supply) throws IllegalArgumentException {
        if (supply < 0 || supply > 40) {
            throw new IllegalArgumentException("supply is not 0 to 40");
        }
        int before = this.supply;
        this.supply = supply;
        return before;
    }

    // ---- snow and winds

    public int fall(int many) throws IllegalArgumentException {
        if (many < 1 || many > 30) {
            throw new IllegalArgumentException("many is not 1 to 30");
        }
        int before = ground.sum(whole);
        for (int cell = 0; cell < CELLS; cell++) {
            ground.put(cell, Math.min(ground.depth(cell) + many, DEEPEST_AFTER_FALL));
        }
        return ground.sum(whole) - before;
    }

    public int blow(int wind, int strength, int hours)
            throws IndexOutOfBoundsException, IllegalArgumentException {
        needWind(wind);
        needStrength(strength);
        needHours(hours);
        screenAllBut(NOTHING_LEFT_OUT);
        int off = blowOver(ground, new Wind(wind, strength, supply), hours);
        carriedOff += off;
        windHours += hours;
        return off;
    }

    public int plough(int road) throws IndexOutOfBoundsException {
        needIndex(road, roads.size());
        Strip strip = roads.get(road).strip;
        int lay = ground.sum(strip);
        ground.clear(strip);
        ploughed += lay;
        return lay;
    }

    // ---- what there is

    public int snow(int column, int row) throws IndexOutOfBoundsException {
        needIndex(column, SIDE);
        needIndex(row, SIDE);
        return ground.depth(row * SIDE + column);
    }

    public int about(int fence, int what) throws IndexOutOfBoundsException {
        needIndex(fence, fences.size());
        needIndex(what, 7);
        Fence asked = fences.get(fence);
        switch (what) {
            case 0:
                return asked.column;
            case 1:
                return asked.row;
            case 2:
                return asked.strip.length;
            case 3:
                return asked.strip.down ? 1 : 0;
            case 4:
                return asked.height;
            case 5:
                return asked.gap;
            default:
                return ground.sum(asked.strip);
        }
    }

    public int told(int road, int what) throws IndexOutOfBoundsException {
        needIndex(road, roads.size());
        needIndex(what, 5);
        Road asked = roads.get(road);
        switch (what) {
            case 0:
                return asked.strip.down ? 1 : 0;
            case 1:
                return asked.index;
            case 2:
                return ground.blocked(asked.strip, limit);
            case 3:
                return ground.sum(asked.strip);
            default:
                return ground.most(asked.strip);
        }
    }

    public int count(int what) throws IndexOutOfBoundsException {
        needIndex(what, 10);
        switch (what) {
            case 0:
                return fences.size();
            case 1:
                return roads.size();
            case 2:
                return ground.sum(whole);
            case 3:
                return ground.most(whole);
            case 4:
                return blockedOnRoads(ground);
            case 5:
                return carriedOff;
            case 6:
                return ploughed;
            case 7:
                return windHours;
            case 8:
                return limit;
            default:
                return supply;
        }
    }

    // ---- what would be

    public int would(int wind, int strength, int hours, int road)
            throws IndexOutOfBoundsException, IllegalArgumentException {
        needWind(wind);
        needIndex(road, roads.size());
        needStrength(strength);
        needHours(hours);
        screenAllBut(NOTHING_LEFT_OUT);
        trial.becomeLike(ground);
        blowOver(trial, new Wind(wind, strength, supply), hours);
        return trial.blocked(roads.get(road).strip, limit);
    }

    public int until(int wind, int strength, int road)
            throws IndexOutOfBoundsException, IllegalArgumentException {
        needWind(wind);
        needIndex(road, roads.size());
        needStrength(strength);
        Strip strip = roads.get(road).strip;
        Wind blowing = new Wind(wind, strength, supply);
        screenAllBut(NOTHING_LEFT_OUT);
        trial.becomeLike(ground);
        for (int hours = 0; hours <= LONGEST_WAIT; hours++) {
            if (trial.blocked(strip, limit) > 0) {
                return hours;
            }
            blowOver(trial, blowing, 1);
        }
        return -1;
    }

    public int advise(int wind, int strength, int height)
            throws IndexOutOfBoundsException, IllegalArgumentException {
        needWind(wind);
        needStrength(strength);
        needHeight(height);
        Wind blowing = new Wind(wind, strength, supply);
        int best = 0;
        // More than can be blocked, so the first place is taken in any case.
        int fewest = MOST_ROADS * SIDE + 1;
        for (int index = 0; index < SIDE; index++) {
            screenAllBut(NOTHING_LEFT_OUT);
            // A fence straight across a wind along the rows goes down a column.
            screens.add(straight(!blowing.down, index), height, 0);
            int blocked = blockedAfterAdvice(blowing);
            if (blocked < fewest) {
                fewest = blocked;
                best = index;
            }
        }
        return best;
    }

    public int harmful(int wind, int strength)
            throws IndexOutOfBoundsException, IllegalArgumentException {
        needWind(wind);
        needStrength(strength);
        Wind blowing = new Wind(wind, strength, supply);
        screenAllBut(NOTHING_LEFT_OUT);
        int worst = -1;
        int fewest = blockedAfterAdvice(blowing);
        for (int fence = 0; fence < fences.size(); fence++) {
            screenAllBut(fence);
            int blocked = blockedAfterAdvice(blowing);
            if (blocked < fewest) {
                fewest = blocked;
                worst = fence;
            }
        }
        return worst;
    }

    public double mean() {
        return (double) ground.sum(whole) / CELLS;
    }

    public long digest() {
        long d = 1777;
        for (int what = 0; what < 10; what++) {
            d = d * 31 + count(what);
        }
        for (int fence = 0; fence < fences.size(); fence++) {
            for (int what = 0; what < 7; what++) {
                d = d * 31 + about(fence, what);
            }
        }
        for (int road = 0; road < roads.size(); road++) {
            for (int what = 0; what < 5; what++) {
                d = d * 31 + told(road, what);
            }
        }
        for (int cell = 0; cell < CELLS; cell++) {
            d = d * 31 + ground.depth(cell);
        }
        return d;
    }

    // ---- what the calls have in common

    private static void needIndex(int index, int many) {
        if (index < 0 || index >= many) {
            throw new IndexOutOfBoundsException("there is none of this number");
        }
    }

    private static void needWind(int wind) {
        needIndex(wind, 4);
    }

    private static void needHeight(int height) {
        if (height < 1 || height > HIGHEST) {
            throw new IllegalArgumentException("height is not 1 to 9");
        }
    }

    private static void needGap(int gap) {
        if (gap < 0 || gap > WIDEST_GAP) {
            throw new IllegalArgumentException("gap is not 0 to 3");
        }
    }

    private static void needStrength(int strength) {
        if (strength < 1 || strength > STRONGEST) {
            throw new IllegalArgumentException("strength is not 1 to 9");
        }
    }

    private static void needHours(int hours) {
        if (hours < 1 || hours > MOST_HOURS) {
            throw new IllegalArgumentException("hours is not 1 to 24");
        }
    }

    private static Strip straight(boolean down, int index) {
        return down ? new Strip(index, 0, SIDE, true) : new Strip(0, index, SIDE, false);
    }

    private void screenAllBut(int leftOut) {
        screens.clear();
        for (int i = 0; i < fences.size(); i++) {
            if (i != leftOut) {
                Fence fence = fences.get(i);
                screens.add(fence.strip, fence.height, fence.gap);
            }
        }
    }

    private int blowOver(Ground over, Wind wind, int hours) {
        int off = 0;
        for (int hour = 0; hour < hours; hour++) {
            off += wind.crossField(over, screens);
        }
        return off;
    }

    private int blockedAfterAdvice(Wind wind) {
        trial.becomeLike(ground);
        blowOver(trial, wind, HOURS_OF_ADVICE);
        return blockedOnRoads(trial);
    }

    private int blockedOnRoads(Ground on) {
        int blocked = 0;
        for (int i = 0; i < roads.size(); i++) {
            blocked += on.blocked(roads.get(i).strip, limit);
        }
        return blocked;
    }

    /** Cells side by side along a row, or down a column; cells are numbered row by row. */
    private static final class Strip {
        final int first;
        final int length;
        final boolean down;

        Strip(int column, int row, int length, boolean down) {
            this.first = row * SIDE + column;
            this.length = length;
            this.down = down;
        }

        int cell(int i) {
            return first + i * (down ? SIDE : 1);
        }
    }

    private static final class Fence {
        final int column;
        final int row;
        final Strip strip;
        int height;
        int gap;

        Fence(int column, int row, Strip strip, int height, int gap) {
            this.column = column;
            this.row = row;
            this.strip = strip;
            this.height = height;
            this.gap = gap;
        }
    }

    private static final class Road {
        final int index;
        final Strip strip;

        Road(int index, Strip strip) {
            this.index = index;
            this.strip = strip;
        }
    }

    /** The snow on each cell. */
    private static final class Ground {
        private final int[] depths = new int[CELLS];

        int depth(int cell) {
            return cell >= 0 && cell < depths.length ? depths[cell] : 0;
        }

        void put(int cell, int depth) {
            if (cell >= 0 && cell < depths.length) {
                depths[cell] = depth;
            }
        }

        void becomeLike(Ground other) {
            for (int cell = 0; cell < CELLS; cell++) {
                put(cell, other.depth(cell));
            }
        }

        void clear(Strip strip) {
            for (int i = 0; i < strip.length; i++) {
                put(strip.cell(i), 0);
            }
        }

        int sum(Strip strip) {
            int sum = 0;
            for (int i = 0; i < strip.length; i++) {
                sum += depth(strip.cell(i));
            }
            return sum;
        }

        int most(Strip strip) {
            int most = 0;
            for (int i = 0; i < strip.length; i++) {
                most = Math.max(most, depth(strip.cell(i)));
            }
            return most;
        }

        int blocked(Strip strip, int limit) {
            int blocked = 0;
            for (int i = 0; i < strip.length; i++) {
                if (depth(strip.cell(i)) >= limit) {
                    blocked++;
                }
            }
            return blocked;
        }
    }

    /** The fence that counts on each cell: its height, 0 where none stands, and its gap. */
    private static final class Screens {
        private final int[] heights = new int[CELLS];
        private final int[] gaps = new int[CELLS];

        int height(int cell) {
            return cell >= 0 && cell < heights.length ? heights[cell] : 0;
        }

        int gap(int cell) {
            return cell >= 0 && cell < gaps.length ? gaps[cell] : 0;
        }

        void clear() {
            for (int cell = 0; cell < CELLS; cell++) {
                stand(cell, 0, 0);
            }
        }

        // Fences come by their numbers, so the earlier one stays where heights are the same.
        void add(Strip strip, int height, int gap) {
            for (int i = 0; i < strip.length; i++) {
                int cell = strip.cell(i);
                if (height > height(cell)) {
                    stand(cell, height, gap);
                }
            }
        }

        private void stand(int cell, int height, int gap) {
            if (cell >= 0 && cell < heights.length && cell < gaps.length) {
                heights[cell] = height;
                gaps[cell] = gap;
            }
        }
    }

    /** A wind, with what it carries along the line in which it is just now. */
    private static final class Wind {
        final boolean down;
        private final int strength;
        private final int supply;
        private final int firstCell;
        private final int nextCell;
        private final int nextLine;
        private int carried;
        private int shelter;
        private int sweep;
        private int holds;

        Wind(int side, int strength, int supply) {
            this.strength = strength;
            this.supply = supply;
            down = side == 1 || side == 3;
            boolean backwards = side == 2 || side == 3;
            int along = down ? SIDE : 1;
            firstCell = backwards ? along * (SIDE - 1) : 0;
            nextCell = backwards ? -along : along;
            nextLine = down ? 1 : SIDE;
        }

        /** Blows for an hour; returns what is carried off. */
        int crossField(Ground ground, Screens screens) {
            int off = 0;
            for (int line = 0; line < SIDE; line++) {
                off += passLine(ground, screens, firstCell + line * nextLine);
            }
            return off;
        }

        private int passLine(Ground ground, Screens screens, int start) {
            carried = supply;
            shelter = 0;
            sweep = 0;
            for (int i = 0; i < SIDE; i++) {
                passCell(ground, screens, start + i * nextCell);
            }
            return carried;
        }

        private void passCell(Ground ground, Screens screens, int cell) {
            int height = screens.height(cell);
            if (height > 0 && 2 * height >= shelter) {
                shelter = 2 * height;
                sweep = screens.gap(cell);
                holds = 10 * height;
                return;
            }
            int there = ground.depth(cell);
            int taken = shelter > 0 && sweep == 0 ? -dropped(there) : pickedUp(there);
            ground.put(cell, there - taken);
            carried += taken;
            shelter = Math.max(shelter - 1, 0);
            sweep = Math.max(sweep - 1, 0);
        }

        private int dropped(int there) {
            return Math.max(Math.min(Math.min(carried, 4), holds - there), 0);
        }

        private int pickedUp(int there) {
            return Math.max(Math.min(Math.min(there, strength), 10 * strength - carried), 0);
        }
    }
}
