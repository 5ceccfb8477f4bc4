import java.math.BigInteger;
import java.util.Arrays;

/** The boundary cases that promises 1 to 20 name, sentence by sentence, each with a test of its own. */
public final class CallsBoundariesTest {
    private static final Boundary b = new Boundary();
    private static final int LEAST = Integer.MIN_VALUE;
    private static final int MOST = Integer.MAX_VALUE;

    private static SnowFences withFences(int many) {
        SnowFences x = new SnowFences();
        for (int i = 0; i < many; i++) {
            x.fence(i, i + 1, 1, false, 1, 0);
        }
        return x;
    }

    private static SnowFences withRoads(int many) {
        SnowFences x = new SnowFences();
        for (int i = 0; i < many; i++) {
            x.road(true, i);
        }
        return x;
    }

    private static void about(String what, String want, SnowFences x, int fence) {
        StringBuilder told = new StringBuilder();
        for (int i = 0; i < 7; i++) {
            told.append(i == 0 ? "" : " ").append(x.about(fence, i));
        }
        b.due(what, want, told::toString);
    }

    private static void told(String what, String want, SnowFences x, int road) {
        StringBuilder told = new StringBuilder();
        for (int i = 0; i < 5; i++) {
            told.append(i == 0 ? "" : " ").append(x.told(road, i));
        }
        b.due(what, want, told::toString);
    }

    private static void counts(String what, String want, SnowFences x) {
        StringBuilder told = new StringBuilder();
        for (int i = 0; i < 10; i++) {
            told.append(i == 0 ? "" : " ").append(x.count(i));
        }
        b.due(what, want, told::toString);
    }

    // ---- 1: a field without snow, fences and roads

    private static void newObject() {
        counts("1 all is none, but the limit", "0 0 0 0 0 0 0 0 15 0", new SnowFences());
        b.none("1 no fence to tell about", Checks.IOOBE, Boundary::empty, (x, n) -> x.about(n, 0));
        b.none("1 no road to be told", Checks.IOOBE, Boundary::empty, (x, n) -> x.told(n, 0));
        SnowFences one = new SnowFences();
        SnowFences other = new SnowFences();
        String before = Boundary.allTold(other);
        one.fence(0, 0, 20, true, 9, 3);
        one.road(true, 3);
        one.setLimit(1);
        one.setSupply(40);
        one.fall(30);
        one.blow(0, 9, 3);
        one.plough(0);
        b.due("1 two objects are two fields", before, () -> Boundary.allTold(other));
    }

    // ---- 2: fence

    private static void fenceRanges() {
        b.range("2 length", 1, 20, Checks.IAE, Boundary::rich, (x, n) -> x.fence(0, 0, n, true, 1, 0));
        b.range("2 length along", 1, 20, Checks.IAE, Boundary::rich, (x, n) -> x.fence(0, 19, n, false, 1, 0));
        b.range("2 height", 1, 9, Checks.IAE, Boundary::rich, (x, n) -> x.fence(0, 0, 1, true, n, 0));
        b.range("2 gap", 0, 3, Checks.IAE, Boundary::rich, (x, n) -> x.fence(0, 0, 1, true, 1, n));
        b.range("2 column", 0, 19, Checks.IOOBE, Boundary::rich, (x, n) -> x.fence(n, 0, 1, false, 1, 0));
        b.range("2 row", 0, 19, Checks.IOOBE, Boundary::rich, (x, n) -> x.fence(0, n, 1, true, 1, 0));
        b.range("2 column of one down all", 0, 19, Checks.IOOBE, Boundary::rich,
                (x, n) -> x.fence(n, 0, 20, true, 1, 0));
        b.range("2 row of one along all", 0, 19, Checks.IOOBE, Boundary::rich,
                (x, n) -> x.fence(0, n, 20, false, 1, 0));
        SnowFences x = new SnowFences();
        x.fence(0, 0, 1, false, 1, 0);
        x.fence(19, 19, 1, true, 9, 3);
        x.fence(0, 19, 20, false, 1, 3);
        x.fence(19, 0, 20, true, 9, 0);
        about("2 the least of all", "0 0 1 0 1 0 0", x, 0);
        about("2 the south-east", "19 19 1 1 9 3 0", x, 1);
        about("2 along all of the last row", "0 19 20 0 1 3 0", x, 2);
        about("2 down all of the last column", "19 0 20 1 9 0 0", x, 3);
    }

    // Throws IndexOutOfBoundsException if some cell of it is not on the field.
    private static void fenceCells() {
        for (int length = 1; length <= 20; length++) {
            int n = length;
            int last = 20 - n;
            SnowFences x = new SnowFences();
            b.due("2 to the east, " + n, 0, () -> x.fence(last, 5, n, false, 1, 0));
            b.due("2 to the south, " + n, 1, () -> x.fence(5, last, n, true, 1, 0));
            b.due("2 from the west, " + n, 2, () -> x.fence(0, 19, n, false, 1, 0));
            b.due("2 from the north, " + n, 3, () -> x.fence(19, 0, n, true, 1, 0));
            b.refused("2 over the east, " + n, Checks.IOOBE, x, () -> x.fence(last + 1, 5, n, false, 1, 0));
            b.refused("2 over the south, " + n, Checks.IOOBE, x, () -> x.fence(5, last + 1, n, true, 1, 0));
            b.refused("2 over the west, " + n, Checks.IOOBE, x, () -> x.fence(-1, 5, n, false, 1, 0));
            b.refused("2 over the north, " + n, Checks.IOOBE, x, () -> x.fence(5, -1, n, true, 1, 0));
            b.refused("2 along, beside the field, " + n, Checks.IOOBE, x, () -> x.fence(0, 20, n, false, 1, 0));
            b.refused("2 down, beside the field, " + n, Checks.IOOBE, x, () -> x.fence(-1, 0, n, true, 1, 0));
            b.refused("2 far to the east, " + n, Checks.IOOBE, x, () -> x.fence(MOST, 5, n, false, 1, 0));
            b.refused("2 far to the south, " + n, Checks.IOOBE, x, () -> x.fence(5, MOST, n, true, 1, 0));
            b.refused("2 far to the west, " + n, Checks.IOOBE, x, () -> x.fence(LEAST, 5, n, false, 1, 0));
            b.refused("2 far to the north, " + n, Checks.IOOBE, x, () -> x.fence(5, LEAST, n, true, 1, 0));
        }
    }

    // At most 10 stand in a row, numbered from 0; throws IllegalStateException if there are 10.
    private static void fenceTen() {
        SnowFences x = new SnowFences();
        for (int i = 0; i < 10; i++) {
            int n = i;
            b.due("2 fence " + n, n, () -> x.fence(n, n, 1, true, 1, 0));
            b.due("2 then there are", n + 1, () -> x.count(0));
        }
        b.refused("2 the eleventh", Checks.ISE, x, () -> x.fence(0, 0, 1, true, 1, 0));
        b.refused("2 the eleventh again", Checks.ISE, x, () -> x.fence(19, 0, 20, true, 9, 3));
        x.take(0);
        b.due("2 one more behind a take", 9, () -> x.fence(15, 15, 1, true, 1, 0));
        about("2 it is the last", "15 15 1 1 1 0 0", x, 9);
        b.refused("2 the eleventh once more", Checks.ISE, x, () -> x.fence(0, 0, 1, true, 1, 0));
    }

    private static void fenceOrder() {
        SnowFences free = Boundary.rich();
        SnowFences full = Boundary.full();
        int[][] bad = {{0, 1, 0}, {21, 1, 0}, {LEAST, 1, 0}, {MOST, 1, 0}, {1, 0, 0}, {1, 10, 0}, {1, 1, -1},
            {1, 1, 4}, {0, 0, 4}};
        for (int[] k : bad) {
            String what = "2 length " + k[0] + " height " + k[1] + " gap " + k[2];
            b.refused(what + " off the field", Checks.IAE, free, () -> free.fence(20, -1, k[0], true, k[1], k[2]));
            b.refused(what + " as eleventh", Checks.IAE, full, () -> full.fence(0, 0, k[0], true, k[1], k[2]));
            b.refused(what + " and both", Checks.IAE, full, () -> full.fence(20, -1, k[0], false, k[1], k[2]));
        }
        b.refused("2 column 20 as eleventh", Checks.IOOBE, full, () -> full.fence(20, 0, 1, true, 1, 0));
        b.refused("2 row -1 as eleventh", Checks.IOOBE, full, () -> full.fence(0, -1, 1, true, 1, 0));
        b.refused("2 over the east as eleventh", Checks.IOOBE, full, () -> full.fence(1, 0, 20, false, 1, 0));
        b.refused("2 over the south as eleventh", Checks.IOOBE, full, () -> full.fence(0, 1, 20, true, 1, 0));
    }

    // ---- 3: change

    private static void change() {
        b.range("3 fence of three", 0, 2, Checks.IOOBE, Boundary::rich, (x, n) -> x.change(n, 4, 1));
        b.range("3 fence of one", 0, 0, Checks.IOOBE, () -> withFences(1), (x, n) -> x.change(n, 4, 1));
        b.range("3 fence of ten", 0, 9, Checks.IOOBE, Boundary::full, (x, n) -> x.change(n, 4, 1));
        b.none("3 fence of none", Checks.IOOBE, Boundary::empty, (x, n) -> x.change(n, 4, 1));
        b.range("3 height", 1, 9, Checks.IAE, Boundary::rich, (x, n) -> x.change(1, n, 0));
        b.range("3 gap", 0, 3, Checks.IAE, Boundary::rich, (x, n) -> x.change(1, 1, n));
        SnowFences x = Boundary.rich();
        b.refused("3 height 0 and gap 4", Checks.IAE, x, () -> x.change(1, 0, 4));
        int[][] bad = {{-1, 0, 0}, {3, 10, 0}, {3, 1, -1}, {-1, 1, 4}, {MOST, LEAST, MOST}};
        for (int[] k : bad) {
            b.refused("3 no such fence is named first", Checks.IOOBE, x, () -> x.change(k[0], k[1], k[2]));
        }
        SnowFences two = withFences(2);
        b.due("3 from the least", 10, () -> two.change(1, 9, 3));
        b.due("3 from the most", 93, () -> two.change(1, 9, 3));
        b.due("3 the same again", 93, () -> two.change(1, 1, 3));
        b.due("3 gap 3 before", 13, () -> two.change(1, 9, 0));
        b.due("3 height 9 before", 90, () -> two.change(1, 1, 0));
        about("3 no other is changed", "0 1 1 0 1 0 0", two, 0);
        about("3 the place is as before", "1 2 1 0 1 0 0", two, 1);
    }

    // ---- 4: take

    private static void take() {
        b.range("4 fence of three", 0, 2, Checks.IOOBE, Boundary::rich, SnowFences::take);
        b.range("4 fence of one", 0, 0, Checks.IOOBE, () -> withFences(1), SnowFences::take);
        b.range("4 fence of ten", 0, 9, Checks.IOOBE, Boundary::full, SnowFences::take);
        b.none("4 fence of none", Checks.IOOBE, Boundary::empty, SnowFences::take);
        for (int taken = 0; taken < 10; taken++) {
            int n = taken;
            SnowFences x = withFences(10);
            b.due("4 nine are left without " + n, 9, () -> x.take(n));
            b.due("4 counted without " + n, 9, () -> x.count(0));
            for (int i = 0; i < 9; i++) {
                int now = i;
                b.due("4 fence " + now + " without " + n, now < n ? now : now + 1, () -> x.about(now, 0));
            }
            b.refused("4 no fence 9 without " + n, Checks.IOOBE, x, () -> x.take(9));
        }
        SnowFences all = withFences(10);
        for (int left = 9; left >= 0; left--) {
            b.due("4 all, one by one", left, () -> all.take(0));
        }
        b.refused("4 none is left", Checks.IOOBE, all, () -> all.take(0));
        b.due("4 the first again", 0, () -> all.fence(2, 2, 1, true, 1, 0));
    }

    // ---- 5: road

    private static void road() {
        b.range("5 column", 0, 19, Checks.IOOBE, Boundary::rich, (x, n) -> x.road(true, n));
        b.range("5 row", 0, 19, Checks.IOOBE, Boundary::rich, (x, n) -> x.road(false, n));
        SnowFences x = Boundary.deep(3);
        b.due("5 the first", 0, () -> x.road(true, 0));
        b.due("5 one there already", 1, () -> x.road(true, 0));
        b.due("5 the row of the same number", 2, () -> x.road(false, 0));
        b.due("5 the fourth", 3, () -> x.road(false, 19));
        told("5 the first is told", "1 0 0 60 3", x, 0);
        told("5 the second is told", "1 0 0 60 3", x, 1);
        told("5 the third is told", "0 0 0 60 3", x, 2);
        told("5 the fourth is told", "0 19 0 60 3", x, 3);
        b.refused("5 the fifth", Checks.ISE, x, () -> x.road(true, 5));
        b.refused("5 the fifth, one there already", Checks.ISE, x, () -> x.road(true, 0));
        int[] off = {-1, 20, LEAST, MOST};
        for (int index : off) {
            b.refused("5 the fifth on " + index, Checks.IOOBE, x, () -> x.road(false, index));
        }
    }

    // ---- 6 and 7: setLimit, setSupply

    private static void settings() {
        b.range("6 limit", 1, 60, Checks.IAE, Boundary::rich, SnowFences::setLimit);
        b.range("6 limit at first", 1, 60, Checks.IAE, Boundary::empty, SnowFences::setLimit);
        b.range("7 supply", 0, 40, Checks.IAE, Boundary::rich, SnowFences::setSupply);
        b.range("7 supply at first", 0, 40, Checks.IAE, Boundary::empty, SnowFences::setSupply);
        SnowFences x = new SnowFences();
        b.due("6 15 at first", 15, () -> x.setLimit(60));
        b.due("6 60 before", 60, () -> x.setLimit(1));
        b.due("6 1 before", 1, () -> x.setLimit(1));
        b.due("6 the same before", 1, () -> x.count(8));
        b.due("7 0 at first", 0, () -> x.setSupply(40));
        b.due("7 40 before", 40, () -> x.setSupply(40));
        b.due("7 the same before", 40, () -> x.setSupply(0));
        b.due("7 none again", 0, () -> x.count(9));
        counts("6 and 7 change nothing else", "0 0 0 0 0 0 0 0 1 0", x);
    }

    // ---- 8: fall; on none lies more than 200 then

    private static void fall() {
        b.range("8 many", 1, 30, Checks.IAE, Boundary::rich, SnowFences::fall);
        b.range("8 many on 200", 1, 30, Checks.IAE, () -> Boundary.deep(200), SnowFences::fall);
        int[][] cases = {{0, 1, 1}, {0, 30, 30}, {169, 30, 199}, {170, 30, 200}, {171, 30, 200}, {198, 1, 199},
            {199, 1, 200}, {199, 2, 200}, {199, 30, 200}, {200, 1, 200}, {200, 30, 200}};
        for (int[] c : cases) {
            SnowFences x = Boundary.deep(c[0]);
            String what = "8 " + c[1] + " on " + c[0];
            b.due(what, 400 * (c[2] - c[0]), () -> x.fall(c[1]));
            b.due(what + " lies then", 400 * c[2], () -> x.count(2));
            b.due(what + " lies in a corner", c[2], () -> x.snow(19, 19));
        }
        SnowFences some = Boundary.deep(200);
        some.road(true, 19);
        some.plough(0);
        b.due("8 only where there is room", 20 * 30, () -> some.fall(30));
        b.due("8 room for less", 20 * 30, () -> some.fall(30));
        b.due("8 the most is as before", 200, () -> some.count(3));
    }

    // ---- 9: blow

    private static void blow() {
        b.range("9 wind", 0, 3, Checks.IOOBE, Boundary::rich, (x, n) -> x.blow(n, 3, 2));
        b.range("9 strength", 1, 9, Checks.IAE, Boundary::rich, (x, n) -> x.blow(3, n, 2));
        b.range("9 hours", 1, 24, Checks.IAE, Boundary::rich, (x, n) -> x.blow(3, 3, n));
        SnowFences x = Boundary.rich();
        b.refused("9 strength 0 and hours 25", Checks.IAE, x, () -> x.blow(0, 0, 25));
        int[][] bad = {{-1, 0, 1}, {4, 10, 1}, {-1, 1, 0}, {4, 1, 25}, {MOST, LEAST, MOST}};
        for (int[] k : bad) {
            b.refused("9 no such wind is named first", Checks.IOOBE, x, () -> x.blow(k[0], k[1], k[2]));
        }
        SnowFences hours = new SnowFences();
        hours.setSupply(1);
        b.due("9 an hour", 20, () -> hours.blow(0, 1, 1));
        b.due("9 24 hours", 480, () -> hours.blow(3, 9, 24));
        counts("9 added to what was before", "0 0 0 0 0 500 0 25 15 1", hours);
        hours.setSupply(0);
        b.due("9 nothing is carried off", 0, () -> hours.blow(1, 9, 24));
        counts("9 hours of nothing", "0 0 0 0 0 500 0 49 15 0", hours);
        blowAtOnceAndByTheHour();
    }

    // What it carries is carried off behind each hour, so hours at once are as hours one by one.
    private static void blowAtOnceAndByTheHour() {
        for (int wind = 0; wind < 4; wind++) {
            int w = wind;
            SnowFences atOnce = Boundary.full();
            SnowFences byTheHour = Boundary.full();
            int sum = 0;
            for (int hour = 0; hour < 24; hour++) {
                sum += byTheHour.blow(w, 4, 1);
            }
            b.due("9 24 hours one by one, wind " + w, sum, () -> atOnce.blow(w, 4, 24));
            b.due("9 all is as one by one, wind " + w, Boundary.allTold(byTheHour), () -> Boundary.allTold(atOnce));
        }
    }

    // ---- 10: plough

    private static void plough() {
        b.range("10 road of two", 0, 1, Checks.IOOBE, Boundary::rich, SnowFences::plough);
        b.range("10 road of one", 0, 0, Checks.IOOBE, () -> withRoads(1), SnowFences::plough);
        b.range("10 road of four", 0, 3, Checks.IOOBE, Boundary::full, SnowFences::plough);
        b.none("10 road of none", Checks.IOOBE, Boundary::empty, SnowFences::plough);
        SnowFences x = Boundary.deep(200);
        x.road(true, 0);
        x.road(true, 0);
        x.road(false, 19);
        x.road(true, 19);
        b.due("10 the most", 4000, () -> x.plough(0));
        b.due("10 none on the same road", 0, () -> x.plough(1));
        b.due("10 but a crossing", 3800, () -> x.plough(2));
        b.due("10 but another crossing", 3800, () -> x.plough(3));
        counts("10 ploughed in all", "0 4 68400 200 0 0 11600 0 15 0", x);
        for (int i = 0; i < 20; i++) {
            ploughBesideOthers(i);
        }
        SnowFences bare = withRoads(1);
        b.due("10 none lay there", 0, () -> bare.plough(0));
        counts("10 none was ploughed", "0 1 0 0 0 0 0 0 15 0", bare);
    }

    // No snow lies on it then, and on each other cell as much as before.
    private static void ploughBesideOthers(int index) {
        for (int down = 0; down < 2; down++) {
            SnowFences x = Boundary.deep(7);
            x.road(down == 1, index);
            String what = "10 " + (down == 1 ? "column " : "row ") + index;
            b.due(what, 140, () -> x.plough(0));
            for (int i = 0; i < 400; i++) {
                int column = i % 20;
                int row = i / 20;
                int lies = (down == 1 ? column : row) == index ? 0 : 7;
                b.due(what + ", at " + column + " " + row, lies, () -> x.snow(column, row));
            }
            told(what + " is told", down + " " + index + " 0 0 0", x, 0);
        }
    }

    // ---- 11: snow

    private static void snow() {
        b.range("11 column", 0, 19, Checks.IOOBE, Boundary::rich, (x, n) -> x.snow(n, 0));
        b.range("11 row", 0, 19, Checks.IOOBE, Boundary::rich, (x, n) -> x.snow(0, n));
        SnowFences x = Boundary.deep(30);
        int[][] off = {{-1, -1}, {20, 20}, {-1, 20}, {20, -1}, {-1, 1}, {20, 18}, {-20, 1}, {LEAST, MOST}};
        for (int[] cell : off) {
            b.refused("11 " + cell[0] + " " + cell[1], Checks.IOOBE, x, () -> x.snow(cell[0], cell[1]));
        }
        // One corner after the other is ploughed, each with a column or row of its own.
        x.road(true, 0);
        x.road(false, 19);
        x.plough(0);
        x.fall(1);
        x.plough(1);
        b.onlyTells("11 north-west", 1, x, () -> x.snow(0, 0));
        b.onlyTells("11 north-east", 31, x, () -> x.snow(19, 0));
        b.onlyTells("11 south-west", 0, x, () -> x.snow(0, 19));
        b.onlyTells("11 south-east", 0, x, () -> x.snow(19, 19));
        SnowFences most = Boundary.deep(200);
        b.onlyTells("11 the most", 200, most, () -> most.snow(0, 0));
    }

    // ---- 12: about

    private static void about() {
        b.range("12 fence of three", 0, 2, Checks.IOOBE, Boundary::rich, (x, n) -> x.about(n, 6));
        b.range("12 fence of one", 0, 0, Checks.IOOBE, () -> withFences(1), (x, n) -> x.about(n, 0));
        b.range("12 fence of ten", 0, 9, Checks.IOOBE, Boundary::full, (x, n) -> x.about(n, 6));
        b.none("12 fence of none", Checks.IOOBE, Boundary::empty, (x, n) -> x.about(n, 0));
        b.range("12 what", 0, 6, Checks.IOOBE, Boundary::rich, (x, n) -> x.about(2, n));
        SnowFences rich = Boundary.rich();
        b.refused("12 neither fence nor what", Checks.IOOBE, rich, () -> rich.about(3, 7));
        SnowFences x = new SnowFences();
        x.fence(0, 0, 20, true, 1, 0);
        x.fence(19, 19, 1, false, 9, 3);
        about("12 no snow on 20 cells", "0 0 20 1 1 0 0", x, 0);
        about("12 no snow on one", "19 19 1 0 9 3 0", x, 1);
        for (int i = 0; i < 7; i++) {
            x.fall(30);
        }
        about("12 the most on 20 cells", "0 0 20 1 1 0 4000", x, 0);
        about("12 the most on one", "19 19 1 0 9 3 200", x, 1);
        b.onlyTells("12 it is only told", 4000, x, () -> x.about(0, 6));
    }

    // ---- 13: told

    private static void told() {
        b.range("13 road of two", 0, 1, Checks.IOOBE, Boundary::rich, (x, n) -> x.told(n, 4));
        b.range("13 road of one", 0, 0, Checks.IOOBE, () -> withRoads(1), (x, n) -> x.told(n, 0));
        b.range("13 road of four", 0, 3, Checks.IOOBE, Boundary::full, (x, n) -> x.told(n, 4));
        b.none("13 road of none", Checks.IOOBE, Boundary::empty, (x, n) -> x.told(n, 0));
        b.range("13 what", 0, 4, Checks.IOOBE, Boundary::rich, (x, n) -> x.told(1, n));
        SnowFences rich = Boundary.rich();
        b.refused("13 neither road nor what", Checks.IOOBE, rich, () -> rich.told(2, 5));
        SnowFences x = new SnowFences();
        x.road(true, 0);
        x.road(false, 19);
        told("13 no snow on the first column", "1 0 0 0 0", x, 0);
        told("13 no snow on the last row", "0 19 0 0 0", x, 1);
        for (int i = 0; i < 7; i++) {
            x.fall(30);
        }
        told("13 the most on the first column", "1 0 20 4000 200", x, 0);
        x.plough(0);
        told("13 all but the crossing", "0 19 19 3800 200", x, 1);
        b.onlyTells("13 it is only told", 3800, x, () -> x.told(1, 3));
        // 4 lie on the last cell of the road alone: the most, and blocked as the limit is 4.
        SnowFences last = new SnowFences();
        last.road(true, 19);
        last.setSupply(4);
        last.setLimit(4);
        last.fence(18, 19, 1, true, 1, 0);
        last.blow(0, 1, 1);
        told("13 on the last cell alone", "1 19 1 4 4", last, 0);
        last.setLimit(5);
        told("13 the limit is one more", "1 19 0 4 4", last, 0);
        SnowFences first = new SnowFences();
        first.road(true, 19);
        first.setSupply(4);
        first.setLimit(4);
        first.fence(18, 0, 1, true, 1, 0);
        first.blow(0, 1, 1);
        told("13 on the first cell alone", "1 19 1 4 4", first, 0);
    }

    // ---- 14: count

    private static void count() {
        b.range("14 what", 0, 9, Checks.IOOBE, Boundary::rich, SnowFences::count);
        b.range("14 what of an empty one", 0, 9, Checks.IOOBE, Boundary::empty, SnowFences::count);
        b.range("14 what of a full one", 0, 9, Checks.IOOBE, Boundary::full, SnowFences::count);
        SnowFences x = withFences(10);
        for (int i = 0; i < 4; i++) {
            x.road(i < 2, 19);
        }
        x.setLimit(60);
        x.setSupply(40);
        counts("14 full, without snow", "10 4 0 0 0 0 0 0 60 40", x);
        for (int i = 0; i < 6; i++) {
            x.fall(30);
        }
        x.fall(20);
        counts("14 the most snow", "10 4 80000 200 80 0 0 0 60 40", x);
        b.onlyTells("14 it is only told", 80000, x, () -> x.count(2));
        x.plough(0);
        // 19 cells of each row are blocked yet, on two roads each.
        counts("14 without one column", "10 4 76000 200 38 0 4000 0 60 40", x);
        b.refused("14 refused, and all as before", Checks.IOOBE, x, () -> x.count(10));
        SnowFences bare = Boundary.deep(200);
        b.due("14 without a road none is blocked", 0, () -> bare.count(4));
        SnowFences one = Boundary.deep(1);
        one.road(true, 0);
        one.road(true, 19);
        one.plough(0);
        one.plough(1);
        b.due("14 the most, not on the first or last cell", 1, () -> one.count(3));
    }

    // ---- 15: would

    private static void would() {
        b.range("15 wind", 0, 3, Checks.IOOBE, Boundary::rich, (x, n) -> x.would(n, 3, 2, 0));
        b.range("15 road of two", 0, 1, Checks.IOOBE, Boundary::rich, (x, n) -> x.would(1, 3, 2, n));
        b.range("15 road of four", 0, 3, Checks.IOOBE, Boundary::full, (x, n) -> x.would(1, 3, 2, n));
        b.none("15 road of none", Checks.IOOBE, Boundary::empty, (x, n) -> x.would(1, 3, 2, n));
        b.range("15 strength", 1, 9, Checks.IAE, Boundary::rich, (x, n) -> x.would(1, n, 2, 0));
        b.range("15 hours", 1, 24, Checks.IAE, Boundary::rich, (x, n) -> x.would(1, 3, n, 0));
        SnowFences x = Boundary.rich();
        b.refused("15 strength 0 and hours 25", Checks.IAE, x, () -> x.would(0, 0, 25, 1));
        b.refused("15 neither wind nor road", Checks.IOOBE, x, () -> x.would(4, 1, 1, 2));
        int[][] bad = {{-1, 0, 1, 0}, {4, 1, 25, 0}, {0, 10, 1, 2}, {0, 1, 0, -1}, {MOST, LEAST, MOST, LEAST}};
        for (int[] k : bad) {
            b.refused("15 no such wind or road is named first", Checks.IOOBE, x,
                    () -> x.would(k[0], k[1], k[2], k[3]));
        }
        for (int wind = 0; wind < 4; wind++) {
            wouldBehindHours(wind);
        }
    }

    // One centimetre an hour is dropped on the road, on none lies any at first.
    private static void wouldBehindHours(int w) {
        int[][] cases = {{1, 1, 20}, {2, 1, 0}, {23, 24, 20}, {24, 24, 20}, {25, 24, 0}, {24, 23, 0}};
        for (int[] c : cases) {
            Along a = new Along(w).supply(1).fence(0, 9, 0).road(1).road(2).limit(c[0]);
            String what = "15 the limit " + c[0] + " behind " + c[1] + ", wind " + w;
            b.onlyTells(what, c[2], a.x, () -> a.x.would(w, 9, c[1], 0));
            b.onlyTells(what + ", beside it", 0, a.x, () -> a.x.would(w, 9, c[1], 1));
        }
        Along blown = new Along(w).fall(15).road(0).road(19);
        b.onlyTells("15 blown free, wind " + w, 0, blown.x, () -> blown.x.would(w, 1, 1, 0));
        b.onlyTells("15 not blown free, wind " + w, 20, blown.x, () -> blown.x.would(w, 1, 1, 1));
        Along full = new Along(w).fall(200).limit(60).road(0).road(19);
        b.onlyTells("15 the most snow, wind " + w, 20, full.x, () -> full.x.would(w, 1, 1, 0));
        // 24 hours take 9 each from the first ten steps, until none lies there, and then from the others.
        b.onlyTells("15 the most wind, wind " + w, 0, full.x, () -> full.x.would(w, 9, 24, 0));
        b.onlyTells("15 the most wind, the last step, wind " + w, 20, full.x, () -> full.x.would(w, 9, 24, 1));
    }

    // ---- 16: until

    private static void until() {
        b.range("16 wind", 0, 3, Checks.IOOBE, Boundary::rich, (x, n) -> x.until(n, 3, 0));
        b.range("16 road of two", 0, 1, Checks.IOOBE, Boundary::rich, (x, n) -> x.until(1, 3, n));
        b.range("16 road of four", 0, 3, Checks.IOOBE, Boundary::full, (x, n) -> x.until(1, 3, n));
        b.none("16 road of none", Checks.IOOBE, Boundary::empty, (x, n) -> x.until(1, 3, n));
        b.range("16 strength", 1, 9, Checks.IAE, Boundary::rich, (x, n) -> x.until(1, n, 0));
        SnowFences x = Boundary.rich();
        b.refused("16 neither wind nor road", Checks.IOOBE, x, () -> x.until(4, 1, 2));
        int[][] bad = {{-1, 0, 0}, {4, 10, 0}, {0, 0, -1}, {3, 10, 2}, {MOST, LEAST, LEAST}};
        for (int[] k : bad) {
            b.refused("16 no such wind or road is named first", Checks.IOOBE, x, () -> x.until(k[0], k[1], k[2]));
        }
        for (int wind = 0; wind < 4; wind++) {
            untilHours(wind);
        }
    }

    // One centimetre an hour is dropped on the road.
    private static void untilHours(int w) {
        int[][] cases = {{1, 1}, {2, 2}, {47, 47}, {48, 48}, {49, -1}, {60, -1}};
        for (int[] c : cases) {
            Along a = new Along(w).supply(1).fence(0, 9, 0).road(1).limit(c[0]);
            b.onlyTells("16 the limit " + c[0] + ", wind " + w, c[1], a.x, () -> a.x.until(w, 9, 0));
        }
        Along now = new Along(w).fall(15).road(0);
        b.onlyTells("16 now, though not behind an hour, wind " + w, 0, now.x, () -> now.x.until(w, 1, 0));
        Along less = new Along(w).fall(14).road(0);
        b.onlyTells("16 one less than now, wind " + w, -1, less.x, () -> less.x.until(w, 1, 0));
        // One cell of the road, its last, is blocked: all others have no fence ahead.
        Along one = new Along(w).supply(1).limit(3).road(1);
        int i = one.index(0);
        one.x.fence(one.down() ? i : 19, one.down() ? 19 : i, 1, true, 1, 0);
        b.onlyTells("16 some cell is one, wind " + w, 3, one.x, () -> one.x.until(w, 1, 0));
        Along other = new Along(w).fall(15).road(5).road(6);
        other.x.plough(1);
        b.onlyTells("16 only the other road is, wind " + w, -1, other.x, () -> other.x.until(w, 1, 1));
        Along none = new Along(w).road(1);
        b.onlyTells("16 no snow at all, wind " + w, -1, none.x, () -> none.x.until(w, 9, 0));
    }

    // ---- 17: advise

    private static void advise() {
        b.range("17 wind", 0, 3, Checks.IOOBE, Boundary::rich, (x, n) -> x.advise(n, 3, 2));
        b.range("17 wind, without a road", 0, 3, Checks.IOOBE, Boundary::empty, (x, n) -> x.advise(n, 3, 2));
        b.range("17 strength", 1, 9, Checks.IAE, Boundary::rich, (x, n) -> x.advise(1, n, 2));
        b.range("17 height", 1, 9, Checks.IAE, Boundary::rich, (x, n) -> x.advise(1, 3, n));
        b.range("17 height with 10 fences", 1, 9, Checks.IAE, Boundary::full, (x, n) -> x.advise(1, 3, n));
        SnowFences x = Boundary.rich();
        b.refused("17 strength 0 and height 10", Checks.IAE, x, () -> x.advise(0, 0, 10));
        int[][] bad = {{-1, 0, 1}, {4, 10, 1}, {-1, 1, 0}, {4, 1, 10}, {MOST, LEAST, MOST}};
        for (int[] k : bad) {
            b.refused("17 no such wind is named first", Checks.IOOBE, x, () -> x.advise(k[0], k[1], k[2]));
        }
        for (int wind = 0; wind < 4; wind++) {
            adviseSmallestOfSeveral(wind);
            adviseOnEachStep(wind);
            adviseTieOfHeight(wind);
            adviseBehindFourHours(wind);
            adviseLeastHarm(wind);
        }
    }

    private static void adviseSmallestOfSeveral(int w) {
        SnowFences bare = Boundary.deep(30);
        b.onlyTells("17 no road, wind " + w, 0, bare, () -> bare.advise(w, 1, 1));
        SnowFences blocked = Boundary.deep(200);
        blocked.road(true, 0);
        blocked.road(false, 19);
        blocked.road(true, 0);
        blocked.road(false, 19);
        b.onlyTells("17 all is blocked wherever it stands, wind " + w, 0, blocked, () -> blocked.advise(w, 1, 1));
    }

    // The fence of 2 on step 2 drops 4 an hour on the road on step 3, where one more of height 1 does not count, as
    // the shelter is 4. On step 1 it catches none; on step 0 it catches 10 on step 1, so that the road has 6.
    private static void adviseOnEachStep(int w) {
        Along first = new Along(w).supply(4).limit(10).fence(2, 2, 0).road(3);
        b.onlyTells("17 the first step, wind " + w, first.index(0), first.x, () -> first.x.advise(w, 1, 1));
        Along full = new Along(w).supply(4).limit(10).fence(2, 2, 0).road(3);
        for (int i = 1; i < 10; i++) {
            full.fence(18, 1, 0);
        }
        b.onlyTells("17 also if there are 10, wind " + w, full.index(0), full.x, () -> full.x.advise(w, 1, 1));
        b.refused("17 though an eleventh is refused, wind " + w, Checks.ISE, full.x,
                () -> full.x.fence(0, 0, 1, true, 1, 0));
        // The fence on step 17 drops 10 on each of the steps 18 and 19, if one more is not on the road itself.
        Along last = new Along(w).supply(40).limit(10).fence(17, 1, 0).road(19);
        b.onlyTells("17 the last step, wind " + w, last.index(19), last.x, () -> last.x.advise(w, 1, 1));
    }

    // The fence on step 0 has a gap of 1 and drops on step 2. One more on step 0 of the same height has the greater
    // number, so it does not count; a higher one drops on step 1 first.
    private static void adviseTieOfHeight(int w) {
        Along same = new Along(w).supply(4).limit(7).fence(0, 1, 1).road(2);
        int onTheRoad = same.index(2);
        b.onlyTells("17 the same height, wind " + w, onTheRoad, same.x, () -> same.x.advise(w, 1, 1));
        Along higher = new Along(w).supply(4).limit(7).fence(0, 1, 1).road(2);
        int smallest = w < 2 ? higher.index(0) : higher.index(2);
        b.onlyTells("17 higher, wind " + w, smallest, higher.x, () -> higher.x.advise(w, 1, 2));
    }

    // 16 are dropped on the road in 4 hours: for the limit 16 one more helps on the road alone, for 17 none is needed
    // (and behind 5 hours it would be).
    private static void adviseBehindFourHours(int w) {
        Along a = new Along(w).supply(40).limit(16).fence(17, 2, 0).road(18);
        b.onlyTells("17 blocked behind 4 hours, wind " + w, a.index(18), a.x, () -> a.x.advise(w, 1, 2));
        a.limit(17);
        b.onlyTells("17 not blocked behind 4 hours, wind " + w, 0, a.x, () -> a.x.advise(w, 1, 2));
    }

    // The wind clears the road, which lies along it, but for the cell of the fence and those that it shelters: wherever
    // it stands it does harm, and the least on the last step.
    private static void adviseLeastHarm(int w) {
        Along a = new Along(w).fall(1).limit(1);
        a.x.road(!a.down(), 0);
        b.onlyTells("17 the least harm, wind " + w, a.index(19), a.x, () -> a.x.advise(w, 9, 1));
        b.onlyTells("17 none would do no harm, wind " + w, 0, a.x, () -> a.x.would(w, 9, 4, 0));
    }

    // ---- 18: harmful

    private static void harmful() {
        b.range("18 wind", 0, 3, Checks.IOOBE, Boundary::rich, (x, n) -> x.harmful(n, 3));
        b.range("18 wind, without a fence", 0, 3, Checks.IOOBE, Boundary::empty, (x, n) -> x.harmful(n, 3));
        b.range("18 strength", 1, 9, Checks.IAE, Boundary::rich, (x, n) -> x.harmful(1, n));
        b.range("18 strength with 10 fences", 1, 9, Checks.IAE, Boundary::full, (x, n) -> x.harmful(1, n));
        SnowFences x = Boundary.rich();
        int[][] bad = {{-1, 0}, {4, 10}, {LEAST, MOST}};
        for (int[] k : bad) {
            b.refused("18 no such wind is named first", Checks.IOOBE, x, () -> x.harmful(k[0], k[1]));
        }
        for (int wind = 0; wind < 4; wind++) {
            harmfulNone(wind);
            harmfulOne(wind);
            harmfulBehindFourHours(wind);
        }
        harmfulOnEachRoad();
    }

    // -1 if without none they would be fewer (not as few) than with all.
    private static void harmfulNone(int w) {
        SnowFences bare = Boundary.deep(30);
        bare.road(true, 5);
        b.onlyTells("18 no fence, wind " + w, -1, bare, () -> bare.harmful(w, 1));
        Along noRoad = new Along(w).supply(40).limit(1).fence(0, 9, 0);
        b.onlyTells("18 no road, wind " + w, -1, noRoad.x, () -> noRoad.x.harmful(w, 1));
        Along asFew = new Along(w).supply(40).limit(4).fence(5, 1, 0).road(8);
        b.onlyTells("18 as few, wind " + w, -1, asFew.x, () -> asFew.x.harmful(w, 1));
        Along both = new Along(w).supply(40).limit(4).fence(5, 1, 0).fence(5, 1, 0).road(6);
        b.onlyTells("18 as few without one of two alike, wind " + w, -1, both.x, () -> both.x.harmful(w, 1));
        // Without the fence that stands on the road the one ahead of it would block it.
        Along helps = new Along(w).supply(40).limit(4).fence(4, 9, 0).fence(5, 9, 0).road(5);
        b.onlyTells("18 more without one, wind " + w, -1, helps.x, () -> helps.x.harmful(w, 1));
    }

    private static void harmfulOne(int w) {
        Along first = new Along(w).supply(40).limit(4).fence(5, 1, 0).road(6);
        b.onlyTells("18 the first and only one, wind " + w, 0, first.x, () -> first.x.harmful(w, 1));
        Along last = new Along(w).supply(40).limit(4).road(6);
        for (int i = 0; i < 9; i++) {
            last.fence(15, 1, 0);
        }
        last.fence(5, 1, 0);
        b.onlyTells("18 the last of 10, wind " + w, 9, last.x, () -> last.x.harmful(w, 1));
        Along same = new Along(w).supply(40).limit(4).fence(18, 1, 0).fence(5, 1, 0).fence(10, 1, 0).road(6).road(11);
        b.onlyTells("18 of several the smallest number, wind " + w, 1, same.x, () -> same.x.harmful(w, 1));
        // The later one blocks one cell more than the first of the two.
        Along more = new Along(w).supply(40).limit(4).road(6).road(11);
        int near = more.index(5);
        int far = more.index(10);
        more.x.fence(more.down() ? near : 3, more.down() ? 3 : near, 6, more.down(), 1, 0);
        more.x.fence(more.down() ? far : 3, more.down() ? 3 : far, 7, more.down(), 1, 0);
        b.onlyTells("18 one cell more, wind " + w, 1, more.x, () -> more.x.harmful(w, 1));
        more.x.take(1);
        more.x.fence(more.down() ? far : 3, more.down() ? 3 : far, 5, more.down(), 1, 0);
        b.onlyTells("18 one cell less, wind " + w, 0, more.x, () -> more.x.harmful(w, 1));
    }

    private static void harmfulBehindFourHours(int w) {
        int[][] cases = {{15, 0}, {16, 0}, {17, -1}};
        for (int[] c : cases) {
            Along a = new Along(w).supply(40).limit(c[0]).fence(5, 2, 0).road(6);
            b.onlyTells("18 16 lie behind 4 hours, the limit " + c[0] + ", wind " + w, c[1], a.x,
                    () -> a.x.harmful(w, 1));
        }
    }

    // The fewest cells of roads, all added: 3 cells of one road are fewer than 2 cells of two.
    private static void harmfulOnEachRoad() {
        SnowFences x = new SnowFences();
        x.setSupply(40);
        x.setLimit(10);
        x.road(true, 7);
        x.road(true, 12);
        x.fence(5, 0, 3, true, 1, 0);
        x.fence(10, 10, 2, true, 1, 0);
        b.onlyTells("18 3 cells and 2", 0, x, () -> x.harmful(0, 1));
        x.road(true, 12);
        b.onlyTells("18 3 cells and 2 of two roads", 1, x, () -> x.harmful(0, 1));
    }

    // ---- 15 to 18: nothing is changed, so what is asked first does not matter

    private static final Boundary.WithNumber[] ASK = {
        (x, wind) -> x.would(wind, 2, 3, 0),
        (x, wind) -> x.until(wind, 2, 0),
        (x, wind) -> x.advise(wind, 2, 3),
        (x, wind) -> x.harmful(wind, 2),
        (x, wind) -> x.blow(wind, 2, 3)
    };
    private static final Boundary.WithNumber[] DO = {
        (x, wind) -> null,
        (x, wind) -> x.take(0),
        (x, wind) -> x.change(0, 9, 3),
        (x, wind) -> x.fence(2, 0, 20, true, 9, 0),
        (x, wind) -> x.road(false, 4),
        (x, wind) -> x.setLimit(1),
        (x, wind) -> x.setSupply(40),
        (x, wind) -> x.fall(30),
        (x, wind) -> x.plough(0)
    };

    private static void askedInAnyOrder() {
        for (int wind = 0; wind < 4; wind++) {
            for (int ask = 0; ask < 4; ask++) {
                for (int done = 0; done < DO.length; done++) {
                    for (int then = 0; then < ASK.length; then++) {
                        askedBetween(wind, ask, done, then);
                    }
                }
            }
        }
    }

    private static void askedBetween(int wind, int ask, int done, int then) {
        SnowFences plain = Boundary.rich();
        SnowFences asked = Boundary.rich();
        ASK[ask].call(asked, wind);
        String what = "wind " + wind + ": asked " + ask + ", done " + done + ", asked " + then;
        Object due = DO[done].call(plain, wind);
        b.due(what + ", done", due, () -> DO[done].call(asked, wind));
        Object answer = ASK[then].call(plain, wind);
        b.due(what, answer, () -> ASK[then].call(asked, wind));
        b.due(what + ", all", Boundary.allTold(plain), () -> Boundary.allTold(asked));
    }

    // ---- 19: mean

    private static void mean() {
        SnowFences bare = new SnowFences();
        b.onlyTells("19 none", 0.0, bare, bare::mean);
        SnowFences most = Boundary.deep(200);
        b.onlyTells("19 the most", 200.0, most, most::mean);
        SnowFences one = new SnowFences();
        one.setSupply(1);
        one.fence(0, 0, 1, true, 1, 0);
        one.blow(0, 1, 1);
        b.onlyTells("19 1 on one cell", 0.0025, one, one::mean);
        SnowFences part = Boundary.deep(1);
        part.road(true, 19);
        part.plough(0);
        b.onlyTells("19 1 on 380 cells", 0.95, part, part::mean);
    }

    // ---- 20: digest

    private static String digestOf(int... numbers) {
        BigInteger d = BigInteger.valueOf(1777);
        for (int x : numbers) {
            d = d.multiply(BigInteger.valueOf(31)).add(BigInteger.valueOf(x));
        }
        // longValue keeps the lowest 64 bits: the number wraps around once, at the end, and not at each step.
        return String.valueOf(d.longValue());
    }

    private static void digest() {
        int[] empty = new int[410];
        empty[8] = 15;
        SnowFences bare = new SnowFences();
        b.onlyTells("20 empty", digestOf(empty), bare, bare::digest);

        int[] most = new int[410];
        Arrays.fill(most, 200);
        int[] counts = {0, 0, 80000, 200, 0, 0, 0, 0, 15, 0};
        System.arraycopy(counts, 0, most, 0, 10);
        SnowFences deep = Boundary.deep(200);
        b.onlyTells("20 the most snow", digestOf(most), deep, deep::digest);

        // One cell in column 1 of row 0 alone, and one fence and one road, told in their order.
        int[] one = new int[10 + 7 + 5 + 400];
        int[] head = {1, 1, 1, 1, 0, 19, 0, 1, 15, 1, 0, 0, 1, 1, 2, 0, 0, 0, 0, 0, 1, 1};
        System.arraycopy(head, 0, one, 0, 22);
        one[23] = 1;
        SnowFences x = new SnowFences();
        x.setSupply(1);
        x.fence(0, 0, 1, true, 2, 0);
        x.road(false, 0);
        x.blow(0, 1, 1);
        b.onlyTells("20 one of each", digestOf(one), x, x::digest);
        b.due("20 it wraps around below 0 or above", true, () -> digestsOnBothSides());
    }

    // By the wrap-around some digests are negative and some are not.
    private static boolean digestsOnBothSides() {
        boolean negative = false;
        boolean positive = false;
        for (int snow = 0; snow < 30; snow++) {
            long d = Boundary.deep(snow).digest();
            negative |= d < 0;
            positive |= d > 0;
        }
        return negative && positive;
    }

    public static void main(String[] args) {
        newObject();
        fenceRanges();
        fenceCells();
        fenceTen();
        fenceOrder();
        change();
        take();
        road();
        settings();
        fall();
        blow();
        plough();
        snow();
        about();
        told();
        count();
        would();
        until();
        advise();
        harmful();
        askedInAnyOrder();
        mean();
        digest();
        b.end();
    }
}
