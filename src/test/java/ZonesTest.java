import java.util.ArrayList;
import java.util.List;
import java.util.Random;

/**
 * What ZONES have, looked at value by value: on quarters of a unit every order of three fractions occurs, so that
 * sets told by whole BOUNDS are alike if they are alike there.
 */
public final class ZonesTest {
    private static final int SCALE = 4;

    public static void main(String[] args) {
        Random random = new Random(77);
        for (int i = 0; i < 400; i++) {
            int clocks = i % 8 == 0 ? 3 : random.nextInt(3);
            Told told = Told.random(random, clocks, clocks == 3 ? 1 : 1 + random.nextInt(3));
            ClockReach x = Check.of(told.text());
            for (int way = 0; way <= 2; way++) {
                zones(told, x, way, i % 2 == 0);
            }
        }
        Check.finish("ZonesTest");
    }

    private static void zones(Told told, ClockReach x, int way, boolean leaves) {
        PlainGraph plain = new PlainGraph(told, way, leaves, told.start, new int[told.clocks + 1], 120);
        int states = x.graph(way, leaves);
        int greatest = greatest(told, plain);
        if (states > 40 || told.clocks == 3 && greatest > 3 || greatest > 8) {
            return;
        }
        List<long[]> grid = grid(told.clocks, (greatest + 1) * Math.max(1, told.clocks) * SCALE + 1);
        boolean[][] has = new boolean[states][grid.size()];
        for (int s = 0; s < states; s++) {
            for (int g = 0; g < grid.size(); g++) {
                has[s][g] = plain.zones.get(s).has(grid.get(g), SCALE);
            }
        }
        String text = " way " + way + " leaves " + leaves + " of " + told.text();
        for (int s = 0; s < states; s++) {
            asked(x, s, grid, has[s], text);
            pairs(x, s, has, text);
            Check.same("covered(" + s + ")" + text, x.covered(s), covered(plain, s, has) ? 1 : 0);
            Check.same("state(" + s + ", 5)" + text, x.state(s, 5), stuck(told, plain, s, grid, has[s]) ? 1 : 0);
            Check.same("points(" + s + ")" + text, x.points(s), points(plain.zones.get(s), told.clocks));
        }
    }

    private static int greatest(Told told, PlainGraph plain) {
        int greatest = 0;
        for (int[] condition : told.allConditions()) {
            greatest = Math.max(greatest, condition[2]);
        }
        for (Bounds zone : plain.zones) {
            for (int i = 0; i < zone.size; i++) {
                for (int j = 0; j < zone.size; j++) {
                    if (zone.number[i][j] != Bounds.FREE) {
                        greatest = Math.max(greatest, Math.abs(zone.number[i][j]));
                    }
                }
            }
        }
        return greatest;
    }

    private static List<long[]> grid(int clocks, int side) {
        List<long[]> grid = new ArrayList<>();
        for (int a = 0; a < (clocks > 0 ? side : 1); a++) {
            for (int b = 0; b < (clocks > 1 ? side : 1); b++) {
                for (int c = 0; c < (clocks > 2 ? side : 1); c++) {
                    grid.add(new long[] {a, b, c});
                }
            }
        }
        return grid;
    }

    private static void asked(ClockReach x, int s, List<long[]> grid, boolean[] has, String text) {
        for (int g = 0; g < grid.size(); g += 1 + grid.size() / 300) {
            long[] v = grid.get(g);
            Check.same("has(" + s + ", " + v[0] * 64 + ", " + v[1] * 64 + ", " + v[2] * 64 + ")" + text,
                x.has(s, (int) v[0] * 64, (int) v[1] * 64, (int) v[2] * 64), has[g] ? 1 : 0);
        }
    }

    private static void pairs(ClockReach x, int s, boolean[][] has, String text) {
        for (int o = 0; o < has.length; o++) {
            boolean all = true;
            boolean some = false;
            for (int g = 0; g < has[s].length; g++) {
                all &= has[s][g] || !has[o][g];
                some |= has[s][g] && has[o][g];
            }
            Check.same("within(" + s + ", " + o + ")" + text, x.within(s, o), all ? 1 : 0);
            Check.same("overlap(" + s + ", " + o + ")" + text, x.overlap(s, o), some ? 1 : 0);
        }
    }

    private static boolean covered(PlainGraph plain, int s, boolean[][] has) {
        for (int g = 0; g < has[s].length; g++) {
            boolean in = !has[s][g];
            for (int o = 0; o < has.length && !in; o++) {
                in = o != s && plain.states.get(o)[0] == plain.states.get(s)[0] && has[o][g];
            }
            if (!in) {
                return false;
            }
        }
        return true;
    }

    private static int points(Bounds zone, int clocks) {
        int points = 0;
        for (long[] value : grid(clocks, 22)) {
            points += zone.has(value, 1) ? 1 : 0;
        }
        return points;
    }

    /** Waits are tried by eighths, so that there is one between each two quarters. */
    private static boolean stuck(Told told, PlainGraph plain, int s, List<long[]> grid, boolean[] has) {
        int place = plain.states.get(s)[0];
        for (int g = 0; g < grid.size(); g++) {
            if (has[g] && !goesOn(told, place, grid.get(g))) {
                return true;
            }
        }
        return false;
    }

    private static boolean goesOn(Told told, int place, long[] value) {
        int most = told.urgent[place] ? 0 : 2 * SCALE * 22;
        for (int wait = 0; wait <= most; wait++) {
            long[] later = {2 * value[0] + wait, 2 * value[1] + wait, 2 * value[2] + wait};
            if (wait > 0 && !Told.meetsAll(told.untils.get(place), later, 2 * SCALE)) {
                return false;
            }
            for (Told.Edge edge : told.edges) {
                if (edge.from == place && told.canTake(edge, later, 2 * SCALE)) {
                    return true;
                }
            }
        }
        return false;
    }
}
