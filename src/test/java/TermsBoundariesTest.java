/**
 * The boundary cases that the document's Terms name, sentence by sentence, for each of the four winds. Due answers
 * are worked out by hand: 2*10 3*7 is 2 steps with 10, then 3 with 7, along the wind.
 */
public final class TermsBoundariesTest {
    private static final Boundary b = new Boundary();

    private static Along from(int wind) {
        return new Along(wind);
    }

    private static void lies(String what, int wind, String want, Along a, int strength, int hours) {
        b.due(what + ", wind " + wind, want, () -> a.behind(strength, hours));
    }

    private static void off(String what, int wind, int want, Along a, int strength, int hours) {
        b.due(what + ", wind " + wind, want, () -> a.blow(strength, hours));
    }

    // It has 20 columns, 0 to 19, and 20 rows, 0 to 19; on each of its cells lies snow (none, at first).
    private static void field() {
        SnowFences x = Boundary.empty();
        for (int i = 0; i < 400; i++) {
            int column = i % 20;
            int row = i / 20;
            b.due("none at first at " + column + " " + row, 0, () -> x.snow(column, row));
        }
        b.range("a column", 0, 19, Checks.IOOBE, Boundary::rich, (y, n) -> y.snow(n, 7));
        b.range("a row", 0, 19, Checks.IOOBE, Boundary::rich, (y, n) -> y.snow(7, n));
    }

    // A cell of a road is blocked, if as much snow lies there as the limit, 1 to 60 (15, at first), or more.
    private static void blocked() {
        int[][] limits = {{15, 14, 0}, {15, 15, 20}, {15, 16, 20}, {1, 0, 0}, {1, 1, 20}, {1, 2, 20},
            {60, 59, 0}, {60, 60, 20}, {60, 61, 20}, {60, 200, 20}};
        for (int i = 0; i < limits.length; i++) {
            int[] limit = limits[i];
            SnowFences x = Boundary.deep(limit[1]);
            x.road(true, 19);
            if (i > 2) {
                x.setLimit(limit[0]);
            }
            String what = "with the limit " + limit[0] + " blocked by " + limit[1];
            b.due(what, limit[2], () -> x.told(0, 2));
            b.due(what + ", counted", limit[2], () -> x.count(4));
            // With a fence on all of the road no wind takes or brings any snow there.
            x.fence(19, 0, 20, true, 9, 0);
            b.due(what + ", as it would be", limit[2], () -> x.would(0, 1, 1, 0));
            b.due(what + ", until", limit[2] > 0 ? 0 : -1, () -> x.until(0, 1, 0));
        }
    }

    // It carries as much as the supply (0 to 40; 0, at first), as it begins; the next line, and the next hour,
    // begin with the supply anew; what it carries behind the last cell is carried off.
    private static void supply(int w) {
        off("no supply at first", w, 0, from(w), 9, 24);
        off("supply 0", w, 0, from(w).supply(40).supply(0), 9, 24);
        off("supply 1", w, 20, from(w).supply(1), 9, 1);
        off("supply 40", w, 800, from(w).supply(40), 9, 1);
        off("supply 40, the next hour anew", w, 1600, from(w).supply(40), 9, 2);
        off("supply 40, 24 hours", w, 19200, from(w).supply(40), 1, 24);
        Along a = from(w).fall(1);
        off("what is picked up", w, 400, a, 9, 1);
        off("what was carried off is not carried again", w, 0, a, 9, 1);
        b.due("carried off in all", 400, () -> a.x.count(5));
    }

    // The highest one (of several the one with the smallest number) counts.
    private static void highestCounts(int w) {
        String close = "3*0 4*4 13*0";
        String swept = "6*0 1*4 13*0";
        lies("of two the smaller number", w, close, from(w).supply(40).fence(2, 2, 0).fence(2, 2, 3), 1, 1);
        lies("of two the smaller number again", w, swept, from(w).supply(40).fence(2, 2, 3).fence(2, 2, 0), 1, 1);
        lies("the higher one behind", w, swept, from(w).supply(40).fence(2, 1, 0).fence(2, 2, 3), 1, 1);
        lies("the higher one ahead", w, close, from(w).supply(40).fence(2, 2, 0).fence(2, 1, 3), 1, 1);
        Along taken = from(w).supply(40).fence(2, 2, 0).fence(2, 2, 3);
        taken.x.take(0);
        lies("the one that moved up", w, swept, taken, 1, 1);
        Along lower = from(w).supply(40).fence(2, 2, 0).fence(2, 2, 3);
        lower.x.change(0, 1, 0);
        lies("the one that is higher now", w, swept, lower, 1, 1);
        Along tenSame = from(w).supply(40).fence(2, 2, 0);
        Along lastHigher = from(w).supply(40).fence(2, 1, 0);
        for (int i = 1; i < 10; i++) {
            tenSame.fence(2, 2, 3);
            lastHigher.fence(2, i == 9 ? 2 : 1, i == 9 ? 3 : 0);
        }
        lies("of ten the smallest number", w, close, tenSame, 1, 1);
        lies("of ten the last, if it is higher", w, swept, lastHigher, 1, 1);
    }

    // If twice its height is the shelter, or more ... Otherwise it is as if there was none.
    private static void heightAgainstShelter(int w) {
        lies("twice the height is the shelter", w, "1*0 2*4 1*0 4*4 12*0",
                from(w).supply(40).fence(0, 3, 0).fence(3, 2, 0), 1, 1);
        lies("one less than the shelter", w, "1*0 6*4 13*0",
                from(w).supply(40).fence(0, 3, 0).fence(2, 2, 0), 1, 1);
        lies("one more than the shelter", w, "1*0 3*4 1*0 4*4 11*0",
                from(w).supply(40).fence(0, 3, 0).fence(4, 2, 0), 1, 1);
        lies("the same height side by side", w, "2*0 4*4 14*0",
                from(w).supply(40).fence(0, 2, 0).fence(1, 2, 0), 1, 1);
        lies("one lower side by side", w, "1*0 4*4 15*0",
                from(w).supply(40).fence(0, 2, 0).fence(1, 1, 0), 1, 1);
        lies("9 behind 9", w, "2*0 10*4 8*0", from(w).supply(40).fence(0, 9, 0).fence(1, 9, 0), 1, 1);
        lies("8 behind 9", w, "1*0 10*4 9*0", from(w).supply(40).fence(0, 9, 0).fence(1, 8, 0), 1, 1);
        lies("8 where the shelter is 17", w, "1*0 10*4 9*0",
                from(w).supply(40).fence(0, 9, 0).fence(2, 8, 0), 1, 1);
        lies("8 where the shelter is 16", w, "1*0 2*4 1*0 8*4 8*0",
                from(w).supply(40).fence(0, 9, 0).fence(3, 8, 0), 1, 1);
        lies("1 on the last sheltered cell", w, "1*0 1*4 1*0 2*4 15*0",
                from(w).supply(40).fence(0, 1, 0).fence(2, 1, 0), 1, 1);
        lies("one that does not count is swept", w, "1*10 3*7 2*14 1*11 10*7 3*10",
                from(w).fall(10).fence(0, 3, 3).fence(1, 1, 0), 3, 1);
        lies("one that does not count has no gap", w, "1*0 4*4 15*0",
                from(w).supply(40).fence(0, 2, 0).fence(1, 1, 3), 1, 1);
        lies("one that does not count ends no sweep", w, "4*0 1*4 15*0",
                from(w).supply(40).fence(0, 2, 3).fence(1, 1, 0), 1, 1);
    }

    // The shelter is twice its height, the sweep its gap, what the shelter holds is 10 times its height.
    private static void shelterAndHold(int w) {
        lies("height 1 shelters 2", w, "1*0 2*4 17*0", from(w).supply(40).fence(0, 1, 0), 1, 1);
        lies("height 4 shelters 8", w, "1*0 8*4 11*0", from(w).supply(40).fence(0, 4, 0), 1, 1);
        lies("height 5 shelters 10", w, "1*0 10*4 9*0", from(w).supply(40).fence(0, 5, 0), 1, 1);
        lies("height 1, not yet full", w, "1*0 2*8 17*0", from(w).supply(40).fence(0, 1, 0), 1, 2);
        lies("height 1 holds 10", w, "1*0 2*10 17*0", from(w).supply(40).fence(0, 1, 0), 1, 3);
        lies("height 1 holds no more", w, "1*0 2*10 17*0", from(w).supply(40).fence(0, 1, 0), 1, 24);
        Along high = from(w).supply(40).fence(0, 9, 0);
        high.blow(1, 24);
        high.blow(1, 24);
        lies("height 9 shelters 18 and holds 90", w, "1*0 18*90 1*0", high, 1, 24);
        b.due("all else is carried off, wind " + w, 20 * (72 * 40 - 18 * 90), () -> high.x.count(5));
        lies("a lower one behind holds less", w, "1*0 2*20 1*0 2*10 14*0",
                from(w).supply(40).fence(0, 2, 0).fence(3, 1, 0), 1, 24);
        lies("a higher one behind holds more", w, "1*0 1*10 1*0 4*20 13*0",
                from(w).supply(40).fence(0, 1, 0).fence(2, 2, 0), 1, 24);
    }

    // That is all for this cell (no snow is picked up, or dropped, and step 3 does not come).
    private static void cellOfAFence(int w) {
        lies("none is picked up on a fence", w, "3*4 16*0 1*4",
                from(w).fall(4).fence(0, 1, 0).fence(19, 1, 0), 9, 1);
        lies("none is dropped on a fence", w, "1*0 1*4 1*0 2*4 15*0",
                from(w).supply(40).fence(0, 1, 0).fence(2, 1, 0), 1, 1);
        Along all = from(w).fall(5);
        for (int step = 0; step < 10; step++) {
            all.fence(step, 1, 3);
        }
        // Behind the last of ten its sweep picks up, and as the shelter ends, all further cells do.
        lies("ten side by side", w, "10*5 10*0", all, 9, 1);
        // The last cell: nothing is behind it, on the next line, or in the next hour.
        Along last = from(w).supply(40).fence(19, 9, 0);
        off("a fence on the last cell", w, 19200, last, 1, 24);
        b.due("shelters none, wind " + w, "20*0", last::lies);
        lies("a fence on the cell before", w, "19*0 1*4", from(w).supply(40).fence(18, 9, 0), 1, 1);
        lies("the shelter ends with the line", w, "18*0 2*8", from(w).supply(40).fence(17, 9, 0), 1, 2);
    }

    // The sweep is its gap, 0 to 3, and 1 less behind each cell; in it snow is picked up.
    private static void sweep(int w) {
        lies("gap 0", w, "3*0 4*4 13*0", from(w).supply(40).fence(2, 2, 0), 1, 1);
        lies("gap 1", w, "4*0 3*4 13*0", from(w).supply(40).fence(2, 2, 1), 1, 1);
        lies("gap 2", w, "5*0 2*4 13*0", from(w).supply(40).fence(2, 2, 2), 1, 1);
        lies("gap 3", w, "6*0 1*4 13*0", from(w).supply(40).fence(2, 2, 3), 1, 1);
        lies("one less than the shelter", w, "4*0 1*4 15*0", from(w).supply(40).fence(2, 1, 1), 1, 1);
        lies("as long as the shelter", w, "20*0", from(w).supply(40).fence(2, 1, 2), 1, 1);
        lies("longer than the shelter", w, "20*0", from(w).supply(40).fence(2, 1, 3), 1, 1);
        lies("longer than the shelter, picked up", w, "1*4 19*0", from(w).fall(4).fence(0, 1, 3), 9, 1);
        lies("picked up in the sweep", w, "1*10 3*7 1*14 8*7 1*9 6*10", from(w).fall(10).fence(0, 2, 3), 3, 1);
        lies("ended by the next fence", w, "2*0 2*4 16*0",
                from(w).supply(40).fence(0, 1, 3).fence(1, 1, 0), 1, 1);
        lies("begun by the next fence", w, "20*0", from(w).supply(40).fence(0, 1, 0).fence(1, 1, 3), 1, 1);
    }

    // Snow is dropped: as much as it carries, but at most 4 ...
    private static void droppedOfWhatIsCarried(int w) {
        String[] want = {"20*0", "1*0 1*1 18*0", "1*0 1*3 18*0", "1*0 1*4 18*0", "1*0 1*4 1*1 17*0",
            "1*0 9*4 1*3 9*0", "1*0 10*4 9*0"};
        int[] supplies = {0, 1, 3, 4, 5, 39, 40};
        for (int i = 0; i < supplies.length; i++) {
            Along a = from(w).supply(supplies[i]).fence(0, 9, 0);
            off("all is dropped of " + supplies[i], w, 0, a, 1, 1);
            b.due("dropped of " + supplies[i] + ", wind " + w, want[i], a::lies);
        }
    }

    // ... and at most as much as what the shelter holds is more than what lies there already (none, if it is not).
    private static void droppedOnWhatLies(int w) {
        int[][] cases = {{0, 4}, {5, 9}, {6, 10}, {7, 10}, {9, 10}, {10, 10}, {11, 11}, {30, 30}, {200, 200}};
        for (int[] c : cases) {
            Along a = from(w).supply(40).fall(c[0]).fence(0, 1, 0);
            int dropped = c[1] - c[0];
            off("dropped where " + c[0] + " lies, the rest", w, 20 * (40 - 2 * dropped), a, 1, 1);
            b.due("dropped on the first where " + c[0] + " lies", c[1], () -> a.snow(1, 0));
            b.due("dropped on the last where " + c[0] + " lies", c[1], () -> a.snow(2, 19));
            b.due("nowhere else where " + c[0] + " lies", 400 * c[0] + 40 * dropped, () -> a.x.count(2));
        }
        lies("none is picked up in a shelter that holds less", w, "19*100 1*91",
                from(w).fall(100).fence(0, 9, 0), 9, 1);
    }

    // Snow is picked up: as much as lies there, but at most the strength ...
    private static void pickedUpOfWhatLies(int w) {
        lies("none lies", w, "20*0", from(w), 9, 24);
        lies("one less than the strength", w, "12*0 1*2 7*4", from(w).fall(4), 5, 1);
        lies("as much as the strength", w, "10*0 10*5", from(w).fall(5), 5, 1);
        lies("one more than the strength", w, "10*1 10*6", from(w).fall(6), 5, 1);
        lies("strength 1", w, "10*0 10*1", from(w).fall(1), 1, 1);
        lies("strength 9", w, "10*21 10*30", from(w).fall(30), 9, 1);
        lies("of the most", w, "10*191 10*200", from(w).fall(200), 9, 1);
        lies("the rest, in the next hour", w, "20*0", from(w).fall(4), 5, 2);
        off("less than it could carry", w, 1600, from(w).fall(4), 9, 1);
    }

    // ... and at most as much as 10 times the strength is more than what it carries already (none, if it is not).
    private static void pickedUpByWhatIsCarried(int w) {
        int[][] cases = {{1, 9, 10}, {1, 10, 10}, {1, 11, 11}, {1, 40, 40}, {3, 28, 30}, {3, 30, 30}, {3, 31, 31},
            {3, 40, 40}, {4, 39, 40}, {4, 40, 40}, {5, 40, 50}, {9, 0, 90}, {9, 40, 90}};
        String[] want = {"1*4 19*5", "20*5", "20*5", "20*5", "1*3 19*5", "20*5", "20*5",
            "20*5", "1*4 19*5", "20*5", "2*0 18*5", "18*0 2*5", "10*0 10*5"};
        for (int i = 0; i < cases.length; i++) {
            int[] c = cases[i];
            Along a = from(w).supply(c[1]).fall(5);
            String what = "strength " + c[0] + " with the supply " + c[1];
            off(what + " carries off", w, 20 * c[2], a, c[0], 1);
            b.due(what + " leaves, wind " + w, want[i], a::lies);
        }
    }

    // For each row or column by itself: a fence on the first or the last line shelters this line alone.
    private static void linesByThemselves(int w) {
        for (int line = 0; line < 20; line += 19) {
            Along a = from(w).supply(40);
            int l = line;
            int i = a.index(0);
            a.x.fence(a.down() ? i : l, a.down() ? l : i, 1, a.down(), 1, 0);
            off("one cell on line " + l, w, 800 - 8, a, 1, 1);
            b.due("dropped on line " + l + ", wind " + w, 4, () -> a.snow(1, l));
            b.due("dropped on line " + l + " further on, wind " + w, 4, () -> a.snow(2, l));
            b.due("none beside line " + l + ", wind " + w, 8, () -> a.x.count(2));

            Along whole = from(w).fall(4);
            whole.x.fence(a.down() ? 0 : l, a.down() ? l : 0, 20, !a.down(), 1, 3);
            off("a fence along all of line " + l, w, 19 * 80, whole, 9, 1);
            b.due("keeps all on it, wind " + w, 80, () -> whole.x.about(0, 6));
            b.due("and none beside it, wind " + w, 80, () -> whole.x.count(2));
        }
    }

    public static void main(String[] args) {
        field();
        blocked();
        for (int wind = 0; wind < 4; wind++) {
            supply(wind);
            highestCounts(wind);
            heightAgainstShelter(wind);
            shelterAndHold(wind);
            cellOfAFence(wind);
            sweep(wind);
            droppedOfWhatIsCarried(wind);
            droppedOnWhatLies(wind);
            pickedUpOfWhatLies(wind);
            pickedUpByWhatIsCarried(wind);
            linesByThemselves(wind);
        }
        b.end();
    }
}
