import java.util.ArrayList;
import java.util.List;

/**
 * The document once more, written apart from the program and as slowly as it reads: fences are looked for
 * on each cell anew, and each would-be is played on a copy. Valid arguments only.
 */
final class Plain {
    /** column, row, length, down (1 or 0), height, gap */
    final List<int[]> fences = new ArrayList<>();
    /** down (1 or 0), index */
    final List<int[]> roads = new ArrayList<>();
    int[][] lies = new int[20][20];
    int limit = 15;
    int supply = 0;
    int carriedOff = 0;
    int ploughed = 0;
    int hours = 0;

    Plain copy() {
        Plain p = new Plain();
        for (int[] f : fences) {
            p.fences.add(f.clone());
        }
        p.roads.addAll(roads);
        for (int c = 0; c < 20; c++) {
            p.lies[c] = lies[c].clone();
        }
        p.limit = limit;
        p.supply = supply;
        return p;
    }

    static boolean standsOn(int[] f, int column, int row) {
        return f[3] == 1
                ? column == f[0] && row >= f[1] && row < f[1] + f[2]
                : row == f[1] && column >= f[0] && column < f[0] + f[2];
    }

    static boolean liesOn(int[] road, int column, int row) {
        return (road[0] == 1 ? column : row) == road[1];
    }

    private int[] counting(int column, int row) {
        int[] best = null;
        for (int[] f : fences) {
            if (standsOn(f, column, row) && (best == null || f[4] > best[4])) {
                best = f;
            }
        }
        return best;
    }

    int hour(int wind, int strength) {
        int off = 0;
        for (int line = 0; line < 20; line++) {
            int carries = supply;
            int shelter = 0;
            int sweep = 0;
            int holds = 0;
            for (int step = 0; step < 20; step++) {
                int along = wind >= 2 ? 19 - step : step;
                int column = wind % 2 == 0 ? along : line;
                int row = wind % 2 == 0 ? line : along;
                int[] f = counting(column, row);
                if (f != null && 2 * f[4] >= shelter) {
                    shelter = 2 * f[4];
                    sweep = f[5];
                    holds = 10 * f[4];
                    continue;
                }
                int here = lies[column][row];
                if (shelter > 0 && sweep == 0) {
                    int drop = carries < 4 ? carries : 4;
                    if (here + drop > holds) {
                        drop = holds > here ? holds - here : 0;
                    }
                    lies[column][row] = here + drop;
                    carries -= drop;
                } else {
                    int pick = here < strength ? here : strength;
                    if (carries + pick > 10 * strength) {
                        pick = 10 * strength > carries ? 10 * strength - carries : 0;
                    }
                    lies[column][row] = here - pick;
                    carries += pick;
                }
                if (shelter > 0) {
                    shelter--;
                }
                if (sweep > 0) {
                    sweep--;
                }
            }
            off += carries;
        }
        return off;
    }

    int blow(int wind, int strength, int many) {
        int off = 0;
        for (int i = 0; i < many; i++) {
            off += hour(wind, strength);
        }
        carriedOff += off;
        hours += many;
        return off;
    }

    int fall(int many) {
        int more = 0;
        for (int[] column : lies) {
            for (int r = 0; r < 20; r++) {
                int then = column[r] + many > 200 ? 200 : column[r] + many;
                more += then - column[r];
                column[r] = then;
            }
        }
        return more;
    }

    int plough(int road) {
        int lay = told(road, 3);
        for (int c = 0; c < 20; c++) {
            for (int r = 0; r < 20; r++) {
                if (liesOn(roads.get(road), c, r)) {
                    lies[c][r] = 0;
                }
            }
        }
        ploughed += lay;
        return lay;
    }

    int about(int fence, int what) {
        int[] f = fences.get(fence);
        if (what < 6) {
            return f[what];
        }
        int sum = 0;
        for (int c = 0; c < 20; c++) {
            for (int r = 0; r < 20; r++) {
                sum += standsOn(f, c, r) ? lies[c][r] : 0;
            }
        }
        return sum;
    }

    int told(int road, int what) {
        int[] it = roads.get(road);
        int blocked = 0;
        int sum = 0;
        int most = 0;
        for (int c = 0; c < 20; c++) {
            for (int r = 0; r < 20; r++) {
                if (liesOn(it, c, r)) {
                    blocked += lies[c][r] >= limit ? 1 : 0;
                    sum += lies[c][r];
                    most = lies[c][r] > most ? lies[c][r] : most;
                }
            }
        }
        return new int[] {it[0], it[1], blocked, sum, most}[what];
    }

    int blockedOnAll() {
        int blocked = 0;
        for (int road = 0; road < roads.size(); road++) {
            blocked += told(road, 2);
        }
        return blocked;
    }

    int count(int what) {
        int sum = 0;
        int most = 0;
        for (int[] column : lies) {
            for (int here : column) {
                sum += here;
                most = here > most ? here : most;
            }
        }
        return new int[] {
            fences.size(), roads.size(), sum, most, blockedOnAll(), carriedOff, ploughed, hours, limit, supply
        }[what];
    }

    int would(int wind, int strength, int many, int road) {
        Plain p = copy();
        p.blow(wind, strength, many);
        return p.told(road, 2);
    }

    int until(int wind, int strength, int road) {
        Plain p = copy();
        int many = 0;
        while (p.told(road, 2) == 0) {
            if (many == 48) {
                return -1;
            }
            p.hour(wind, strength);
            many++;
        }
        return many;
    }

    int advise(int wind, int strength, int height) {
        int[] blocked = new int[20];
        int best = 0;
        for (int i = 0; i < 20; i++) {
            Plain p = copy();
            p.fences.add(wind % 2 == 0 ? new int[] {i, 0, 20, 1, height, 0} : new int[] {0, i, 20, 0, height, 0});
            p.blow(wind, strength, 4);
            blocked[i] = p.blockedOnAll();
            best = blocked[i] < blocked[best] ? i : best;
        }
        return best;
    }

    int harmful(int wind, int strength) {
        Plain all = copy();
        all.blow(wind, strength, 4);
        int least = all.blockedOnAll();
        int found = -1;
        for (int i = 0; i < fences.size(); i++) {
            Plain p = copy();
            p.fences.remove(i);
            p.blow(wind, strength, 4);
            if (p.blockedOnAll() < least) {
                least = p.blockedOnAll();
                found = i;
            }
        }
        return found;
    }

    double mean() {
        return count(2) / 400.0;
    }

    long digest() {
        List<Integer> numbers = new ArrayList<>();
        for (int what = 0; what <= 9; what++) {
            numbers.add(count(what));
        }
        for (int f = 0; f < fences.size(); f++) {
            for (int what = 0; what <= 6; what++) {
                numbers.add(about(f, what));
            }
        }
        for (int road = 0; road < roads.size(); road++) {
            for (int what = 0; what <= 4; what++) {
                numbers.add(told(road, what));
            }
        }
        for (int r = 0; r < 20; r++) {
            for (int c = 0; c < 20; c++) {
                numbers.add(lies[c][r]);
            }
        }
        long d = 1777;
        for (int x : numbers) {
            d = d * 31 + x;
        }
        return d;
    }
}
