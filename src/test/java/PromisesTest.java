/** A few checks for each promise: ordinary inputs, the edges that the document names, and wrong inputs. */
public final class PromisesTest {
    private static final Checks checks = new Checks();

    private static void due(String what, Object want, Checks.Call call) {
        checks.due(what, want, call);
    }

    private static void refused(String what, String exception, SnowFences x, Checks.Call call) {
        checks.refused(what, exception, x, call);
    }

    /** Snow on the cells of row 0, from the west to the east. */
    private static String row0(SnowFences x) {
        StringBuilder b = new StringBuilder();
        for (int c = 0; c < 20; c++) {
            b.append(c == 0 ? "" : " ").append(x.snow(c, 0));
        }
        return b.toString();
    }

    private static void promise1New() {
        SnowFences x = new SnowFences();
        int[] counts = {0, 0, 0, 0, 0, 0, 0, 0, 15, 0};
        for (int what = 0; what < 10; what++) {
            int k = what;
            due("1 count(" + k + ")", counts[k], () -> x.count(k));
        }
        for (int c = 0; c < 20; c++) {
            for (int r = 0; r < 20; r++) {
                int column = c;
                int row = r;
                due("1 snow", 0, () -> x.snow(column, row));
            }
        }
        refused("1 no fence", Checks.IOOBE, x, () -> x.about(0, 0));
        refused("1 no road", Checks.IOOBE, x, () -> x.told(0, 0));
    }

    private static void promise2Fence() {
        SnowFences x = new SnowFences();
        due("2 first", 0, () -> x.fence(0, 0, 20, false, 1, 0));
        due("2 second", 1, () -> x.fence(19, 0, 20, true, 9, 3));
        due("2 corner", 2, () -> x.fence(19, 19, 1, false, 5, 1));
        refused("2 length 0", Checks.IAE, x, () -> x.fence(0, 0, 0, false, 1, 0));
        refused("2 length 21", Checks.IAE, x, () -> x.fence(0, 0, 21, false, 1, 0));
        refused("2 length most", Checks.IAE, x, () -> x.fence(1, 1, Integer.MAX_VALUE, false, 1, 0));
        refused("2 height 0", Checks.IAE, x, () -> x.fence(0, 0, 1, false, 0, 0));
        refused("2 height 10", Checks.IAE, x, () -> x.fence(0, 0, 1, false, 10, 0));
        refused("2 gap -1", Checks.IAE, x, () -> x.fence(0, 0, 1, false, 1, -1));
        refused("2 gap 4", Checks.IAE, x, () -> x.fence(0, 0, 1, false, 1, 4));
        refused("2 IAE before IOOBE", Checks.IAE, x, () -> x.fence(20, 0, 1, false, 1, 4));
        refused("2 column -1", Checks.IOOBE, x, () -> x.fence(-1, 0, 2, false, 1, 0));
        refused("2 column 20", Checks.IOOBE, x, () -> x.fence(20, 0, 1, true, 1, 0));
        refused("2 row -1", Checks.IOOBE, x, () -> x.fence(0, -1, 2, true, 1, 0));
        refused("2 row 20", Checks.IOOBE, x, () -> x.fence(0, 20, 1, false, 1, 0));
        refused("2 column most", Checks.IOOBE, x, () -> x.fence(Integer.MAX_VALUE, 0, 20, false, 1, 0));
        refused("2 over the east", Checks.IOOBE, x, () -> x.fence(18, 0, 3, false, 1, 0));
        refused("2 over the south", Checks.IOOBE, x, () -> x.fence(0, 18, 3, true, 1, 0));
        due("2 to the south", 3, () -> x.fence(18, 17, 3, true, 1, 0));
        due("2 to the east", 4, () -> x.fence(17, 18, 3, false, 1, 0));
        for (int i = 5; i < 10; i++) {
            due("2 more", i, () -> x.fence(3, 3, 2, true, 2, 2));
        }
        refused("2 eleventh", Checks.ISE, x, () -> x.fence(3, 3, 2, true, 2, 2));
        refused("2 eleventh, off the field", Checks.IOOBE, x, () -> x.fence(19, 3, 2, false, 2, 2));
        refused("2 eleventh, no length", Checks.IAE, x, () -> x.fence(19, 3, 0, false, 2, 2));
    }

    private static void promise3Change() {
        SnowFences x = new SnowFences();
        x.fence(4, 5, 6, true, 7, 2);
        x.fence(1, 1, 1, false, 9, 0);
        due("3 change", 72, () -> x.change(0, 3, 1));
        due("3 again", 31, () -> x.change(0, 9, 3));
        due("3 height now", 9, () -> x.about(0, 4));
        due("3 gap now", 3, () -> x.about(0, 5));
        due("3 the place stays", 6, () -> x.about(0, 2));
        due("3 the other stays", 90, () -> x.change(1, 1, 0));
        refused("3 fence -1", Checks.IOOBE, x, () -> x.change(-1, 1, 0));
        refused("3 fence 2", Checks.IOOBE, x, () -> x.change(2, 1, 0));
        refused("3 height 0", Checks.IAE, x, () -> x.change(0, 0, 0));
        refused("3 height 10", Checks.IAE, x, () -> x.change(0, 10, 0));
        refused("3 gap -1", Checks.IAE, x, () -> x.change(0, 1, -1));
        refused("3 gap 4", Checks.IAE, x, () -> x.change(0, 1, 4));
        refused("3 IOOBE before IAE", Checks.IOOBE, x, () -> x.change(2, 0, 4));
    }

    private static void promise4Take() {
        SnowFences x = new SnowFences();
        for (int i = 0; i < 10; i++) {
            x.fence(i, 0, 1, false, 1, 0);
        }
        due("4 take", 9, () -> x.take(4));
        due("4 those before stay", 3, () -> x.about(3, 0));
        due("4 those behind move up", 5, () -> x.about(4, 0));
        due("4 the last", 9, () -> x.about(8, 0));
        refused("4 take -1", Checks.IOOBE, x, () -> x.take(-1));
        refused("4 take 9", Checks.IOOBE, x, () -> x.take(9));
        due("4 take the last", 8, () -> x.take(8));
        due("4 room again", 8, () -> x.fence(0, 0, 1, false, 1, 0));
    }

    private static void promise5Road() {
        SnowFences x = new SnowFences();
        due("5 down", 0, () -> x.road(true, 19));
        due("5 along", 1, () -> x.road(false, 0));
        refused("5 index -1", Checks.IOOBE, x, () -> x.road(true, -1));
        refused("5 index 20", Checks.IOOBE, x, () -> x.road(false, 20));
        due("5 the same again", 2, () -> x.road(true, 19));
        due("5 fourth", 3, () -> x.road(false, 19));
        refused("5 fifth", Checks.ISE, x, () -> x.road(true, 1));
        refused("5 fifth, index 20", Checks.IOOBE, x, () -> x.road(true, 20));
    }

    private static void promise6And7Settings() {
        SnowFences x = new SnowFences();
        due("6 setLimit", 15, () -> x.setLimit(1));
        due("6 again", 1, () -> x.setLimit(60));
        due("6 limit", 60, () -> x.count(8));
        refused("6 limit 0", Checks.IAE, x, () -> x.setLimit(0));
        refused("6 limit 61", Checks.IAE, x, () -> x.setLimit(61));
        due("7 setSupply", 0, () -> x.setSupply(40));
        due("7 again", 40, () -> x.setSupply(0));
        due("7 and again", 0, () -> x.setSupply(13));
        due("7 supply", 13, () -> x.count(9));
        refused("7 supply -1", Checks.IAE, x, () -> x.setSupply(-1));
        refused("7 supply 41", Checks.IAE, x, () -> x.setSupply(41));
    }

    private static void promise8Fall() {
        SnowFences x = new SnowFences();
        due("8 fall 1", 400, () -> x.fall(1));
        for (int i = 0; i < 6; i++) {
            due("8 fall 30", 12000, () -> x.fall(30));
        }
        due("8 up to 200", 19 * 400, () -> x.fall(30));
        due("8 no more", 0, () -> x.fall(30));
        due("8 the most", 200, () -> x.count(3));
        refused("8 fall 0", Checks.IAE, x, () -> x.fall(0));
        refused("8 fall 31", Checks.IAE, x, () -> x.fall(31));
    }

    private static void promise9BlowByHand() {
        SnowFences x = new SnowFences();
        x.fence(5, 0, 1, false, 2, 1);
        x.fall(10);
        // 19 rows without a fence give 20 * 3, up to 30 in a line; row 0 is told by hand:
        // 15 from columns 0 to 4, 3 from the sweep, 4 + 4 + 4 dropped, then 3 each up to 30.
        due("9 west", 19 * 30 + 30, () -> x.blow(0, 3, 1));
        due("9 row 0", "7 7 7 7 7 10 7 14 14 14 7 7 7 7 7 7 7 7 10 10", () -> row0(x));
        due("9 hours", 1, () -> x.count(7));
        due("9 carried off", 600, () -> x.count(5));
    }

    private static void promise9Fences() {
        SnowFences two = new SnowFences();
        two.setSupply(40);
        two.fence(2, 0, 1, false, 3, 0);
        two.fence(4, 0, 1, false, 2, 0);
        two.fence(5, 0, 1, false, 2, 3);
        two.blow(0, 1, 1);
        // Behind the fence of 3 the shelter is 6, 5 on column 4 (more than 4: sheltered), 4 on column 5.
        due("9 a low fence in a shelter", "0 0 0 4 4 0 0 0 0 4 0 0 0 0 0 0 0 0 0 0", () -> row0(two));

        SnowFences same = new SnowFences();
        same.setSupply(40);
        same.fence(2, 0, 1, true, 2, 0);
        same.fence(2, 0, 1, false, 2, 3);
        same.blow(0, 1, 1);
        due("9 of the same height the smallest number", "0 0 0 4 4 4 4 0 0 0 0 0 0 0 0 0 0 0 0 0", () -> row0(same));
        same.fence(2, 0, 1, false, 3, 3);
        same.blow(0, 4, 1);
        due("9 the highest counts", "0 0 0 4 4 4 8 4 4 0 0 0 0 0 0 0 0 0 0 0", () -> row0(same));

        SnowFences full = new SnowFences();
        full.setSupply(40);
        full.fence(0, 0, 1, false, 1, 0);
        full.blow(0, 1, 4);
        due("9 a shelter holds 10 times the height", "0 10 10 0 0 0 0 0 0 0 0 0 0 0 0 0 0 0 0 0", () -> row0(full));
        full.fall(5);
        full.blow(0, 9, 1);
        due("9 none, if more lies there", 15, () -> full.snow(1, 0));

        SnowFences little = new SnowFences();
        little.setSupply(6);
        little.fence(0, 0, 1, false, 1, 0);
        due("9 as much as it carries", 19 * 6, () -> little.blow(0, 1, 1));
        due("9 4 and the rest", "0 4 2 0 0 0 0 0 0 0 0 0 0 0 0 0 0 0 0 0", () -> row0(little));

        SnowFences much = new SnowFences();
        much.setSupply(40);
        much.fall(5);
        due("9 a weak wind with much supply picks up none", 20 * 40 * 2, () -> much.blow(2, 1, 2));
        due("9 and leaves all", 2000, () -> much.count(2));
        due("9 a stronger one does", 20 * 50, () -> much.blow(3, 5, 1));

        SnowFences wide = new SnowFences();
        wide.fall(10);
        wide.fence(0, 0, 1, false, 1, 3);
        wide.blow(0, 1, 1);
        due("9 a gap longer than the shelter", "10 9 9 9 9 9 9 9 9 9 9 10 10 10 10 10 10 10 10 10", () -> row0(wide));
    }

    private static void promise9Lines() {
        SnowFences east = new SnowFences();
        east.fall(10);
        east.blow(2, 3, 1);
        due("9 from the east", "10 10 10 10 10 10 10 10 10 10 7 7 7 7 7 7 7 7 7 7", () -> row0(east));
        due("9 from the east, the south-east", 7, () -> east.snow(19, 19));
        due("9 from the east, the south-west", 10, () -> east.snow(0, 19));
        SnowFences south = new SnowFences();
        south.fall(10);
        south.blow(3, 3, 1);
        due("9 from the south, row 9", 10, () -> south.snow(0, 9));
        due("9 from the south, row 10", 7, () -> south.snow(0, 10));
        due("9 from the south, the south-east", 7, () -> south.snow(19, 19));
        due("9 from the south, the north-east", 10, () -> south.snow(19, 0));

        SnowFences last = new SnowFences();
        last.setSupply(40);
        last.fence(0, 19, 1, false, 9, 0);
        due("9 no shelter on the next line", 800, () -> last.blow(1, 1, 1));
        due("9 nor on any", 0, () -> last.count(2));
        last.fence(0, 0, 1, true, 1, 0);
        last.take(1);
        last.take(0);
        due("9 a fence that was taken shelters none", 800, () -> last.blow(0, 1, 1));
        SnowFences low = new SnowFences();
        low.setSupply(40);
        low.fence(2, 0, 1, false, 2, 0);
        low.fence(4, 0, 1, false, 1, 0);
        low.blow(0, 1, 1);
        due("9 twice 1 is less than 3", "0 0 0 4 4 4 4 0 0 0 0 0 0 0 0 0 0 0 0 0", () -> row0(low));
    }

    private static void promise9Sides() {
        // A fence of 1 at (9, 9) drops 4 on the two cells behind it, on another side for each wind.
        int[][] behind = {{10, 9, 11, 9}, {9, 10, 9, 11}, {8, 9, 7, 9}, {9, 8, 9, 7}};
        for (int wind = 0; wind < 4; wind++) {
            int w = wind;
            int[] b = behind[wind];
            SnowFences x = new SnowFences();
            x.setSupply(10);
            x.fence(9, 9, 1, wind % 2 == 0, 1, 0);
            due("9 wind " + w, 24 * 200 - 20, () -> x.blow(w, 1, 24));
            due("9 wind " + w + " drops", 10, () -> x.snow(b[0], b[1]));
            due("9 wind " + w + " drops further on", 10, () -> x.snow(b[2], b[3]));
            due("9 wind " + w + " and nowhere else", 20, () -> x.count(2));
            due("9 24 hours", 24, () -> x.count(7));
        }
        SnowFences x = new SnowFences();
        refused("9 wind -1", Checks.IOOBE, x, () -> x.blow(-1, 1, 1));
        refused("9 wind 4", Checks.IOOBE, x, () -> x.blow(4, 1, 1));
        refused("9 strength 0", Checks.IAE, x, () -> x.blow(0, 0, 1));
        refused("9 strength 10", Checks.IAE, x, () -> x.blow(0, 10, 1));
        refused("9 hours 0", Checks.IAE, x, () -> x.blow(0, 1, 0));
        refused("9 hours 25", Checks.IAE, x, () -> x.blow(0, 1, 25));
        refused("9 IOOBE before IAE", Checks.IOOBE, x, () -> x.blow(4, 0, 0));
    }

    private static void promise10Plough() {
        SnowFences x = new SnowFences();
        x.fall(7);
        x.road(true, 3);
        x.road(false, 19);
        due("10 plough", 140, () -> x.plough(0));
        due("10 no snow then", 0, () -> x.told(0, 3));
        due("10 beside it all", 400 * 7 - 140, () -> x.count(2));
        due("10 the crossing is free", 133, () -> x.plough(1));
        due("10 again", 0, () -> x.plough(1));
        due("10 ploughed in all", 273, () -> x.count(6));
        due("10 not carried off", 0, () -> x.count(5));
        refused("10 road -1", Checks.IOOBE, x, () -> x.plough(-1));
        refused("10 road 2", Checks.IOOBE, x, () -> x.plough(2));
    }

    private static void promise11Snow() {
        SnowFences x = new SnowFences();
        x.fall(7);
        x.road(true, 19);
        x.plough(0);
        due("11 column 19", 0, () -> x.snow(19, 0));
        due("11 row 19", 7, () -> x.snow(0, 19));
        refused("11 column -1", Checks.IOOBE, x, () -> x.snow(-1, 0));
        refused("11 column 20", Checks.IOOBE, x, () -> x.snow(20, 0));
        refused("11 row -1", Checks.IOOBE, x, () -> x.snow(1, -1));
        refused("11 row 20", Checks.IOOBE, x, () -> x.snow(0, 20));
    }

    private static void promise12About() {
        SnowFences x = new SnowFences();
        x.fence(2, 3, 5, false, 6, 1);
        x.fence(4, 7, 11, true, 8, 2);
        x.fall(3);
        x.road(false, 9);
        x.plough(0);
        int[][] want = {{2, 3, 5, 0, 6, 1, 15}, {4, 7, 11, 1, 8, 2, 30}};
        for (int i = 0; i < 14; i++) {
            int fence = i / 7;
            int what = i % 7;
            due("12 about(" + fence + ", " + what + ")", want[fence][what], () -> x.about(fence, what));
        }
        refused("12 fence -1", Checks.IOOBE, x, () -> x.about(-1, 0));
        refused("12 fence 2", Checks.IOOBE, x, () -> x.about(2, 0));
        refused("12 what -1", Checks.IOOBE, x, () -> x.about(0, -1));
        refused("12 what 7", Checks.IOOBE, x, () -> x.about(0, 7));
    }

    private static void promise13Told() {
        SnowFences x = new SnowFences();
        x.road(false, 7);
        x.road(true, 12);
        x.fall(15);
        x.plough(0);
        x.fall(14);
        int[][] want = {{0, 7, 0, 280, 14}, {1, 12, 19, 19 * 29 + 14, 29}};
        for (int i = 0; i < 10; i++) {
            int road = i / 5;
            int what = i % 5;
            due("13 told(" + road + ", " + what + ")", want[road][what], () -> x.told(road, what));
        }
        x.setLimit(14);
        due("13 as much as the limit", 20, () -> x.told(0, 2));
        SnowFences first = new SnowFences();
        first.setSupply(40);
        first.road(false, 1);
        first.fence(0, 0, 1, false, 1, 0);
        first.blow(1, 1, 1);
        due("13 the most, on the first cell", 4, () -> first.told(0, 4));
        refused("13 road -1", Checks.IOOBE, x, () -> x.told(-1, 0));
        refused("13 road 2", Checks.IOOBE, x, () -> x.told(2, 0));
        refused("13 what -1", Checks.IOOBE, x, () -> x.told(0, -1));
        refused("13 what 5", Checks.IOOBE, x, () -> x.told(0, 5));
    }

    private static void promise14Count() {
        SnowFences x = new SnowFences();
        x.fence(0, 0, 1, false, 1, 0);
        x.road(true, 0);
        x.road(false, 0);
        x.road(false, 5);
        x.fall(20);
        x.plough(2);
        x.setLimit(18);
        x.setSupply(2);
        x.blow(1, 1, 3);
        // Each column takes up 1 a cell until it carries 10, and gives 10 an hour, so 20 * 10 * 3 in all; the
        // shelter in column 0 drops none, as 20 lie there already.
        due("14 fences", 1, () -> x.count(0));
        due("14 roads", 3, () -> x.count(1));
        // What came, without what was ploughed, and with the supply of 20 columns in 3 hours.
        due("14 snow", 400 * 20 - 400 + 20 * 2 * 3 - 600, () -> x.count(2));
        due("14 the most", 20, () -> x.count(3));
        due("14 blocked of each road", x.told(0, 2) + x.told(1, 2) + x.told(2, 2), () -> x.count(4));
        due("14 carried off", 600, () -> x.count(5));
        due("14 ploughed", 400, () -> x.count(6));
        due("14 hours", 3, () -> x.count(7));
        due("14 limit", 18, () -> x.count(8));
        due("14 supply", 2, () -> x.count(9));
        refused("14 what -1", Checks.IOOBE, x, () -> x.count(-1));
        refused("14 what 10", Checks.IOOBE, x, () -> x.count(10));
        SnowFences twice = new SnowFences();
        twice.road(true, 1);
        twice.road(true, 1);
        twice.road(false, 1);
        twice.fall(15);
        due("14 a cell counts for each of its roads", 60, () -> twice.count(4));
    }

    private static void promise15Would() {
        SnowFences x = new SnowFences();
        x.fence(5, 0, 20, true, 2, 0);
        x.road(true, 7);
        x.road(false, 0);
        x.setSupply(40);
        due("15 3 hours", 0, () -> x.would(0, 1, 3, 0));
        due("15 4 hours", 20, () -> x.would(0, 1, 4, 0));
        due("15 the other road", 4, () -> x.would(0, 1, 24, 1));
        due("15 from the east", 0, () -> x.would(2, 1, 24, 0));
        due("15 nothing is changed", 0, () -> x.count(2) + x.count(5) + x.count(7));
        x.fall(20);
        due("15 starts from what lies there", 20, () -> x.would(3, 1, 1, 1));
        x.plough(1);
        due("15 and from nothing again", 0, () -> x.would(3, 1, 1, 1));
        refused("15 wind -1", Checks.IOOBE, x, () -> x.would(-1, 1, 1, 0));
        refused("15 wind 4", Checks.IOOBE, x, () -> x.would(4, 1, 1, 0));
        refused("15 road -1", Checks.IOOBE, x, () -> x.would(0, 1, 1, -1));
        refused("15 road 2", Checks.IOOBE, x, () -> x.would(0, 1, 1, 2));
        refused("15 strength 0", Checks.IAE, x, () -> x.would(0, 0, 1, 0));
        refused("15 strength 10", Checks.IAE, x, () -> x.would(0, 10, 1, 0));
        refused("15 hours 0", Checks.IAE, x, () -> x.would(0, 1, 0, 0));
        refused("15 hours 25", Checks.IAE, x, () -> x.would(0, 1, 25, 0));
        refused("15 IOOBE before IAE", Checks.IOOBE, x, () -> x.would(0, 0, 25, 2));
    }

    private static void promise16Until() {
        SnowFences x = new SnowFences();
        x.fence(5, 0, 20, true, 2, 0);
        x.road(true, 7);
        x.setSupply(40);
        due("16 until", 4, () -> x.until(0, 1, 0));
        due("16 never", -1, () -> x.until(2, 1, 0));
        x.setLimit(4);
        due("16 at once", 1, () -> x.until(0, 1, 0));
        x.fall(4);
        due("16 now", 0, () -> x.until(2, 1, 0));
        refused("16 wind -1", Checks.IOOBE, x, () -> x.until(-1, 1, 0));
        refused("16 wind 4", Checks.IOOBE, x, () -> x.until(4, 1, 0));
        refused("16 road 1", Checks.IOOBE, x, () -> x.until(0, 1, 1));
        refused("16 road -1", Checks.IOOBE, x, () -> x.until(0, 1, -1));
        refused("16 strength 0", Checks.IAE, x, () -> x.until(0, 0, 0));
        refused("16 strength 10", Checks.IAE, x, () -> x.until(0, 10, 0));
        refused("16 IOOBE before IAE", Checks.IOOBE, x, () -> x.until(0, 0, 1));
        promise16EdgeOf48();
    }

    private static void promise16EdgeOf48() {
        SnowFences x = new SnowFences();
        x.setSupply(1);
        x.road(true, 1);
        x.fence(0, 0, 20, true, 9, 0);
        x.setLimit(48);
        due("16 48 hours", 48, () -> x.until(0, 1, 0));
        x.setLimit(49);
        due("16 49 are too many", -1, () -> x.until(0, 1, 0));
        x.change(0, 1, 0);
        x.take(0);
        x.fence(0, 0, 1, true, 1, 0);
        x.setLimit(3);
        due("16 some cell is one", 3, () -> x.until(0, 1, 0));
    }

    private static void promise17Advise() {
        SnowFences x = new SnowFences();
        due("17 no road", 0, () -> x.advise(0, 1, 1));
        x.road(true, 7);
        x.setSupply(40);
        x.setLimit(10);
        due("17 nothing blocks the road", 0, () -> x.advise(0, 1, 1));
        // The fence drops 10 on each of the two cells behind it; one more of any height helps only on the road.
        x.fence(5, 0, 20, true, 1, 0);
        due("17 west", 7, () -> x.advise(0, 1, 1));
        due("17 west, higher", 7, () -> x.advise(0, 1, 2));
        due("17 east, no fence before the road", 0, () -> x.advise(2, 1, 1));
        x.take(0);
        x.fence(9, 0, 20, true, 1, 0);
        due("17 east", 7, () -> x.advise(2, 1, 1));
        for (int i = 1; i < 10; i++) {
            x.fence(0, 19, 1, true, 1, 0);
        }
        due("17 also with 10 fences", 7, () -> x.advise(2, 1, 1));
        due("17 still 10", 10, () -> x.count(0));
        SnowFences all = new SnowFences();
        for (int i = 0; i < 4; i++) {
            all.road(false, i);
        }
        all.setLimit(1);
        all.fall(30);
        due("17 all blocked wherever it stands", 0, () -> all.advise(1, 1, 1));
        refused("17 wind -1", Checks.IOOBE, x, () -> x.advise(-1, 1, 1));
        refused("17 wind 4", Checks.IOOBE, x, () -> x.advise(4, 1, 1));
        refused("17 strength 0", Checks.IAE, x, () -> x.advise(0, 0, 1));
        refused("17 strength 10", Checks.IAE, x, () -> x.advise(0, 10, 1));
        refused("17 height 0", Checks.IAE, x, () -> x.advise(0, 1, 0));
        refused("17 height 10", Checks.IAE, x, () -> x.advise(0, 1, 10));
        refused("17 IOOBE before IAE", Checks.IOOBE, x, () -> x.advise(4, 1, 10));
    }

    private static void promise17AlongRows() {
        SnowFences first = new SnowFences();
        first.setSupply(40);
        first.setLimit(4);
        first.road(false, 0);
        first.road(false, 1);
        // On row 0 it would block the road on row 1.
        due("17 north", 1, () -> first.advise(1, 1, 1));
        due("17 south", 0, () -> first.advise(3, 1, 1));

        SnowFences x = new SnowFences();
        x.setSupply(4);
        x.setLimit(7);
        x.road(false, 2);
        x.fence(0, 0, 20, false, 1, 1);
        // The fence sweeps row 1, and drops 4 an hour on row 2. One more on row 0 would drop 10 on row 1
        // first and so keep the road free, but it has the greater number and does not count there.
        due("17 it has the greatest number", 2, () -> x.advise(1, 1, 1));
        due("17 but counts if it is higher", 0, () -> x.advise(1, 1, 2));

        SnowFences hours = new SnowFences();
        hours.setSupply(40);
        hours.setLimit(16);
        hours.road(true, 0);
        hours.road(true, 1);
        // Behind 4 hours 16 lie behind a fence on column 0, behind 5 they would be 20.
        due("17 4 hours", 1, () -> hours.advise(0, 1, 2));
        hours.setLimit(17);
        due("17 not 5", 0, () -> hours.advise(0, 1, 2));
    }

    private static void promise18Harmful() {
        SnowFences x = new SnowFences();
        x.setSupply(40);
        x.road(true, 7);
        due("18 no fence", -1, () -> x.harmful(0, 1));
        x.fence(15, 0, 20, true, 1, 0);
        due("18 one that does nothing", -1, () -> x.harmful(0, 1));
        x.fence(5, 0, 5, true, 2, 0);
        x.fence(5, 10, 6, true, 2, 0);
        x.fence(5, 5, 5, true, 2, 0);
        due("18 the longest", 2, () -> x.harmful(0, 1));
        due("18 none from the east", -1, () -> x.harmful(2, 1));
        x.setLimit(17);
        due("18 5 hours are too many", -1, () -> x.harmful(0, 1));
        x.setLimit(16);
        due("18 4 are not", 2, () -> x.harmful(0, 1));
        x.setLimit(15);
        x.take(2);
        due("18 of two the smaller number", 1, () -> x.harmful(0, 1));
        x.fence(5, 0, 10, true, 2, 0);
        due("18 as few is not fewer", -1, () -> x.harmful(0, 1));
        due("18 all stand", 4, () -> x.count(0));
        SnowFences first = new SnowFences();
        first.setSupply(40);
        first.road(true, 7);
        first.fence(5, 0, 20, true, 2, 0);
        due("18 the first", 0, () -> first.harmful(0, 1));
        refused("18 wind -1", Checks.IOOBE, x, () -> x.harmful(-1, 1));
        refused("18 wind 4", Checks.IOOBE, x, () -> x.harmful(4, 1));
        refused("18 strength 0", Checks.IAE, x, () -> x.harmful(0, 0));
        refused("18 strength 10", Checks.IAE, x, () -> x.harmful(0, 10));
        refused("18 IOOBE before IAE", Checks.IOOBE, x, () -> x.harmful(4, 0));
    }

    private static void promise19And20Sums() {
        SnowFences x = new SnowFences();
        due("19 none", 0.0, x::mean);
        x.fall(3);
        due("19 on all", 3.0, x::mean);
        x.road(true, 0);
        x.plough(0);
        due("19 a part", 2.85, x::mean);
        due("20 digest", digestOf(x), x::digest);
        SnowFences empty = new SnowFences();
        due("20 empty", digestOf(empty), empty::digest);
        x.fence(1, 2, 3, true, 4, 1);
        x.fence(5, 2, 3, false, 4, 2);
        x.road(false, 4);
        x.blow(3, 2, 5);
        due("20 with fences and roads", digestOf(x), x::digest);
    }

    private static long digestOf(SnowFences x) {
        long d = 1777;
        for (int what = 0; what <= 9; what++) {
            d = d * 31 + x.count(what);
        }
        for (int i = 0; i < x.count(0) * 7; i++) {
            d = d * 31 + x.about(i / 7, i % 7);
        }
        for (int i = 0; i < x.count(1) * 5; i++) {
            d = d * 31 + x.told(i / 5, i % 5);
        }
        for (int i = 0; i < 400; i++) {
            d = d * 31 + x.snow(i % 20, i / 20);
        }
        return d;
    }

    public static void main(String[] args) {
        promise1New();
        promise2Fence();
        promise3Change();
        promise4Take();
        promise5Road();
        promise6And7Settings();
        promise8Fall();
        promise9BlowByHand();
        promise9Fences();
        promise9Lines();
        promise9Sides();
        promise10Plough();
        promise11Snow();
        promise12About();
        promise13Told();
        promise14Count();
        promise15Would();
        promise16Until();
        promise17Advise();
        promise17AlongRows();
        promise18Harmful();
        promise19And20Sums();
        checks.end();
    }
}
