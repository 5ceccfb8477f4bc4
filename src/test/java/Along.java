/**
 * A field as a wind sees it: step 0 is the side from which it comes, step 19 the other one. Fences and roads go
 * straight across it on all 20 cells, so that all 20 lines are alike, whichever wind it is.
 */
final class Along {
    final SnowFences x = new SnowFences();
    final int wind;

    Along(int wind) {
        this.wind = wind;
    }

    /** The column (winds 0 and 2) or row (1 and 3) of a step. */
    int index(int step) {
        return wind >= 2 ? 19 - step : step;
    }

    boolean down() {
        return wind % 2 == 0;
    }

    Along supply(int supply) {
        x.setSupply(supply);
        return this;
    }

    Along limit(int limit) {
        x.setLimit(limit);
        return this;
    }

    Along fall(int snow) {
        for (int left = snow; left > 0; left -= 30) {
            x.fall(Math.min(left, 30));
        }
        return this;
    }

    Along fence(int step, int height, int gap) {
        int i = index(step);
        x.fence(down() ? i : 0, down() ? 0 : i, 20, down(), height, gap);
        return this;
    }

    Along road(int step) {
        x.road(down(), index(step));
        return this;
    }

    int blow(int strength, int hours) {
        return x.blow(wind, strength, hours);
    }

    int snow(int step, int line) {
        return down() ? x.snow(index(step), line) : x.snow(line, index(step));
    }

    /** The snow of each step behind so many hours; steps with the same snow side by side are told as 3*10. */
    String behind(int strength, int hours) {
        blow(strength, hours);
        return lies();
    }

    String lies() {
        StringBuilder b = new StringBuilder();
        int same = 1;
        for (int step = 0; step < 20; step++) {
            for (int line = 1; line < 20; line++) {
                if (snow(step, line) != snow(step, 0)) {
                    return "line " + line + " is not as line 0 on step " + step;
                }
            }
            if (step < 19 && snow(step, 0) == snow(step + 1, 0)) {
                same++;
            } else {
                b.append(b.length() == 0 ? "" : " ").append(same).append('*').append(snow(step, 0));
                same = 1;
            }
        }
        return b.toString();
    }
}
