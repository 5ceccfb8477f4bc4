/** What the tests of boundary cases have in common: fields to start from, and what is asked of each. */
final class Boundary {
    interface Field {
        SnowFences make();
    }

    interface WithNumber {
        Object call(SnowFences x, int n);
    }

    private static final int[] FAR_OFF = {Integer.MIN_VALUE, -1000, 1000, Integer.MAX_VALUE};

    private final Checks checks = new Checks();

    static SnowFences empty() {
        return new SnowFences();
    }

    /** 3 fences, 2 roads, and something in all that can be told. */
    static SnowFences rich() {
        SnowFences x = new SnowFences();
        x.fence(5, 0, 20, true, 2, 0);
        x.fence(8, 3, 7, false, 3, 1);
        x.fence(12, 12, 1, true, 9, 3);
        x.road(true, 7);
        x.road(false, 11);
        x.setLimit(12);
        x.setSupply(17);
        x.fall(10);
        x.plough(1);
        x.blow(0, 3, 2);
        x.fall(6);
        x.blow(3, 5, 1);
        return x;
    }

    /** 10 fences and 4 roads. */
    static SnowFences full() {
        SnowFences x = rich();
        for (int i = 3; i < 10; i++) {
            x.fence(i, i, 10, i % 2 == 0, i - 1, i % 4);
        }
        x.road(true, 0);
        x.road(false, 19);
        return x;
    }

    /** As much snow on each cell. */
    static SnowFences deep(int snow) {
        SnowFences x = new SnowFences();
        for (int left = snow; left > 0; left -= 30) {
            x.fall(Math.min(left, 30));
        }
        return x;
    }

    /** All that calls can tell of x which leave it as it is. */
    static String allTold(SnowFences x) {
        StringBuilder b = new StringBuilder();
        for (int what = 0; what < 10; what++) {
            b.append(x.count(what)).append(' ');
        }
        for (int i = 0; i < x.count(0) * 7; i++) {
            b.append(x.about(i / 7, i % 7)).append(' ');
        }
        for (int i = 0; i < x.count(1) * 5; i++) {
            b.append(x.told(i / 5, i % 5)).append(' ');
        }
        for (int i = 0; i < 400; i++) {
            b.append(x.snow(i % 20, i / 20)).append(' ');
        }
        for (int wind = 0; wind < 4; wind++) {
            b.append(x.advise(wind, 2, 3)).append(' ').append(x.harmful(wind, 2)).append(' ');
            for (int road = 0; road < x.count(1); road++) {
                b.append(x.would(wind, 2, 3, road)).append(' ').append(x.until(wind, 2, road)).append(' ');
            }
        }
        return b.append(x.mean()).append(' ').append(x.digest()).toString();
    }

    void due(String what, Object want, Checks.Call call) {
        checks.due(what, want, call);
    }

    /** The call throws just this, and what later calls tell is as before it. */
    void refused(String what, String exception, SnowFences x, Checks.Call call) {
        String before = allTold(x);
        due(what, "throws." + exception, call);
        due(what + " changes nothing", before, () -> allTold(x));
    }

    /** The call throws none. */
    void allowed(String what, Checks.Call call) {
        String answer = Checks.answerOf(call);
        due(what + " answers " + answer, false, () -> answer.startsWith("throws."));
    }

    /** Tells what the call tells, and leaves all as it was. */
    void onlyTells(String what, Object want, SnowFences x, Checks.Call call) {
        String before = allTold(x);
        due(what, want, call);
        due(what + " changes nothing", before, () -> allTold(x));
    }

    /** The first and the last number are allowed; one less, one more, and numbers far off are refused. */
    void range(String what, int from, int to, String exception, Field field, WithNumber call) {
        SnowFences first = field.make();
        allowed(what + " " + from, () -> call.call(first, from));
        SnowFences last = field.make();
        allowed(what + " " + to, () -> call.call(last, to));
        SnowFences x = field.make();
        refused(what + " " + (from - 1), exception, x, () -> call.call(x, from - 1));
        refused(what + " " + (to + 1), exception, x, () -> call.call(x, to + 1));
        for (int n : FAR_OFF) {
            refused(what + " " + n, exception, x, () -> call.call(x, n));
        }
    }

    /** None of the numbers is there. */
    void none(String what, String exception, Field field, WithNumber call) {
        SnowFences x = field.make();
        for (int n = -1; n <= 1; n++) {
            int number = n;
            refused(what + " " + n, exception, x, () -> call.call(x, number));
        }
    }

    void end() {
        checks.end();
    }
}
