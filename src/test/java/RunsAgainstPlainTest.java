/** Long runs of calls, valid and wrong, each answer compared with the plain reading of the document. */
public final class RunsAgainstPlainTest {
    private static final int RUNS = 150;
    private static final int CALLS = 500;
    private static final int[] ODD = {Integer.MIN_VALUE, -1, 0, 1, 9, 10, 19, 20, 21, 41, 61, Integer.MAX_VALUE};

    private final String name;
    private final SnowFences x = new SnowFences();
    private final Plain p = new Plain();
    private long seed;
    private int wrong = 0;

    private RunsAgainstPlainTest(int run) {
        name = "run " + run;
        seed = 7919L * run + 17;
    }

    // A counter of our own, so that each run of the test is the same.
    private int pick(int from, int to) {
        seed = seed * 6364136223846793005L + 1442695040888963407L;
        return from + (int) Math.floorMod(seed >>> 33, (long) (to - from + 1));
    }

    /** Mostly a number in the range, at times one off it or a wild one. */
    private int around(int from, int to) {
        int kind = pick(0, 39);
        if (kind == 0) {
            return ODD[pick(0, ODD.length - 1)];
        }
        return kind == 1 ? from - 1 : kind == 2 ? to + 1 : pick(from, to);
    }

    private static boolean in(int n, int from, int to) {
        return n >= from && n <= to;
    }

    private void compare(String call, boolean iaeFirst, boolean iae, boolean ioobe, boolean ise,
            Checks.Call got, Checks.Call want) {
        String refusal = iae && (iaeFirst || !ioobe) ? Checks.IAE : ioobe ? Checks.IOOBE : ise ? Checks.ISE : null;
        Object due = refusal == null ? want.answer() : "throws." + refusal;
        String answered = Checks.answerOf(got);
        if (!answered.equals(String.valueOf(due))) {
            wrong++;
            System.out.println(name + ": " + call + " answered " + answered + ", due is " + due);
        }
        long digest = x.digest();
        if (digest != p.digest()) {
            wrong++;
            System.out.println(name + ": digest differs behind " + call);
        }
    }

    private void buildOrChange(int kind) {
        int fences = p.fences.size();
        int roads = p.roads.size();
        int height = around(1, 9);
        int gap = around(0, 3);
        int which = around(0, Math.max(fences - 1, 0));
        boolean down = pick(0, 1) == 1;
        switch (kind) {
            case 0: {
                int length = around(1, 20);
                boolean ok = in(length, 1, 20);
                int c = around(0, ok && !down ? 20 - length : 19);
                int r = around(0, ok && down ? 20 - length : 19);
                boolean bad = !ok || !in(height, 1, 9) || !in(gap, 0, 3);
                boolean off = !in(c, 0, 19) || !in(r, 0, 19) || (long) (down ? r : c) + length > 20;
                compare("fence", true, bad, off, fences == 10, () -> x.fence(c, r, length, down, height, gap), () -> {
                    p.fences.add(new int[] {c, r, length, down ? 1 : 0, height, gap});
                    return fences;
                });
                break;
            }
            case 1:
                compare("change", false, !in(height, 1, 9) || !in(gap, 0, 3), !in(which, 0, fences - 1), false,
                        () -> x.change(which, height, gap), () -> {
                            int[] f = p.fences.get(which);
                            int before = 10 * f[4] + f[5];
                            f[4] = height;
                            f[5] = gap;
                            return before;
                        });
                break;
            case 2:
                compare("take", false, false, !in(which, 0, fences - 1), false, () -> x.take(which), () -> {
                    p.fences.remove(which);
                    return fences - 1;
                });
                break;
            case 3: {
                int index = around(0, 19);
                compare("road", false, false, !in(index, 0, 19), roads == 4, () -> x.road(down, index), () -> {
                    p.roads.add(new int[] {down ? 1 : 0, index});
                    return roads;
                });
                break;
            }
            case 4: {
                int limit = around(1, 60);
                int before = p.limit;
                compare("setLimit", true, !in(limit, 1, 60), false, false, () -> x.setLimit(limit), () -> {
                    p.limit = limit;
                    return before;
                });
                break;
            }
            default: {
                int supply = around(0, 40);
                int before = p.supply;
                compare("setSupply", true, !in(supply, 0, 40), false, false, () -> x.setSupply(supply), () -> {
                    p.supply = supply;
                    return before;
                });
                break;
            }
        }
    }

    private void weather(int kind) {
        int wind = around(0, 3);
        int strength = around(1, 9);
        int hours = around(1, 24);
        int road = around(0, Math.max(p.roads.size() - 1, 0));
        int many = around(1, 30);
        boolean noWind = !in(wind, 0, 3);
        boolean noRoad = !in(road, 0, p.roads.size() - 1);
        boolean noStrength = !in(strength, 1, 9);
        boolean noHours = !in(hours, 1, 24);
        switch (kind) {
            case 0:
                compare("fall", true, !in(many, 1, 30), false, false, () -> x.fall(many), () -> p.fall(many));
                break;
            case 1:
                compare("plough", false, false, noRoad, false, () -> x.plough(road), () -> p.plough(road));
                break;
            default:
                compare("blow", false, noStrength || noHours, noWind, false,
                        () -> x.blow(wind, strength, hours), () -> p.blow(wind, strength, hours));
                break;
        }
    }

    private void whatWouldBe(int kind) {
        int wind = around(0, 3);
        int strength = around(1, 9);
        int hours = around(1, 24);
        int height = around(1, 9);
        int road = around(0, Math.max(p.roads.size() - 1, 0));
        boolean noWind = !in(wind, 0, 3);
        boolean noRoad = !in(road, 0, p.roads.size() - 1);
        boolean noStrength = !in(strength, 1, 9);
        switch (kind) {
            case 0:
                compare("would", false, noStrength || !in(hours, 1, 24), noWind || noRoad, false,
                        () -> x.would(wind, strength, hours, road), () -> p.would(wind, strength, hours, road));
                break;
            case 1:
                compare("until", false, noStrength, noWind || noRoad, false,
                        () -> x.until(wind, strength, road), () -> p.until(wind, strength, road));
                break;
            case 2:
                compare("advise", false, noStrength || !in(height, 1, 9), noWind, false,
                        () -> x.advise(wind, strength, height), () -> p.advise(wind, strength, height));
                break;
            case 3:
                compare("harmful", false, noStrength, noWind, false,
                        () -> x.harmful(wind, strength), () -> p.harmful(wind, strength));
                break;
            default:
                compare("mean", false, false, false, false, x::mean, p::mean);
                break;
        }
    }

    private void whatThereIs(int kind) {
        int fence = around(0, Math.max(p.fences.size() - 1, 0));
        int road = around(0, Math.max(p.roads.size() - 1, 0));
        int c = around(0, 19);
        int r = around(0, 19);
        int what = around(0, kind == 0 ? 6 : kind == 1 ? 4 : 9);
        switch (kind) {
            case 0:
                compare("about", false, false, !in(fence, 0, p.fences.size() - 1) || !in(what, 0, 6), false,
                        () -> x.about(fence, what), () -> p.about(fence, what));
                break;
            case 1:
                compare("told", false, false, !in(road, 0, p.roads.size() - 1) || !in(what, 0, 4), false,
                        () -> x.told(road, what), () -> p.told(road, what));
                break;
            case 2:
                compare("count", false, false, !in(what, 0, 9), false, () -> x.count(what), () -> p.count(what));
                break;
            default:
                compare("snow", false, false, !in(c, 0, 19) || !in(r, 0, 19), false,
                        () -> x.snow(c, r), () -> p.lies[c][r]);
                break;
        }
    }

    private int play() {
        for (int call = 0; call < CALLS && wrong == 0; call++) {
            int group = pick(0, 9);
            if (group < 3) {
                int kind = pick(0, 11);
                buildOrChange(kind < 6 ? kind : kind < 9 ? 0 : kind < 11 ? 3 : 1);
            } else if (group < 6) {
                weather(pick(0, 4));
            } else if (group < 9) {
                whatWouldBe(pick(0, 4));
            } else {
                whatThereIs(pick(0, 3));
            }
        }
        return wrong;
    }

    public static void main(String[] args) {
        int wrong = 0;
        for (int run = 1; run <= RUNS; run++) {
            wrong += new RunsAgainstPlainTest(run).play();
        }
        System.out.println(RUNS + " runs, " + wrong + " wrong");
        if (wrong != 0) {
            System.exit(1);
        }
    }
}
