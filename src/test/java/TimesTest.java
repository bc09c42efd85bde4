import java.util.ArrayList;
import java.util.List;
import java.util.Random;

/** RUNS, their TIMES and spans, against the shortest ways between all moments of the run. */
public final class TimesTest {
    private static final long FREE = Long.MAX_VALUE / 4;

    public static void main(String[] args) {
        Random random = new Random(4711);
        for (int i = 0; i < 700; i++) {
            Told told = Told.random(random, random.nextInt(4), 1 + random.nextInt(i % 7 == 0 ? 20 : 5));
            ClockReach x = Check.of(told.text());
            int way = random.nextInt(3);
            int states = x.graph(way, random.nextInt(3) > 0);
            for (int s = 0; s < states; s += 1 + states / 12) {
                run(told, x, s, random, way + " of " + told.text());
            }
            for (int k = 0; k < 20; k++) {
                tells(told, x, random);
            }
        }
        Check.finish("TimesTest");
    }

    private static void run(Told told, ClockReach x, int state, Random random, String text) {
        List<Integer> run = new ArrayList<>();
        for (int s = state; x.state(s, 1) >= 0; s = x.state(s, 1)) {
            run.add(0, x.state(s, 2));
        }
        int length = run.size();
        Check.same("EDGES of the RUN", x.state(state, 3), length);
        for (int k = 0; k < length; k++) {
            Check.same("run(" + state + ", " + k + ") way " + text, x.run(state, k), run.get(k));
        }
        Check.same("run(" + state + ", " + length + ")", x.run(state, length), -1);
        long[][] ticks = moments(told, run, 256, 1);
        close(ticks);
        for (int k = 0; k < length; k++) {
            String call = "(" + state + ", " + k + ") way " + text;
            Check.same("when" + call, x.when(state, k), fits(ticks) ? -ticks[0][k + 1] : -1);
            for (int c = 0; c < told.clocks; c++) {
                long value = -ticks[0][k + 1] + ticks[0][lastReset(told, run, k + 1, c)];
                Check.same("then" + call, x.then(state, k, c), fits(ticks) ? value : -1);
            }
        }
        latest(told, x, state, run, random, text);
        spans(told, x, state, run, text);
        replay(x, state, length, text);
    }

    private static void replay(ClockReach x, int state, int length, String text) {
        boolean times = length == 0 || x.when(state, 0) >= 0;
        Check.same("replays(" + state + ") way " + text, x.replays(state), times);
        if (times) {
            Check.same("the place behind it", x.now(0), x.state(state, 0));
            Check.same("the time behind it", x.now(1), length == 0 ? 0 : x.when(state, length - 1));
            for (int c = 0; c < x.about(0) && length > 0; c++) {
                Check.same("a clock behind it", x.clock(c), x.then(state, length - 1, c));
            }
        }
    }

    private static void latest(Told told, ClockReach x, int state, List<Integer> run, Random random, String text) {
        int length = run.size();
        int units = random.nextInt(4) == 0 ? random.nextInt(1001) : random.nextInt(12);
        if (length == 0) {
            return;
        }
        long[][] ticks = moments(told, run, 256, 1);
        ticks[length][0] = Math.min(ticks[length][0], 256L * units);
        close(ticks);
        for (int k = 0; k < length; k++) {
            Check.same("latest(" + state + ", " + k + ", " + units + ") way " + text, x.latest(state, k, units),
                fits(ticks) ? ticks[k + 1][0] : -1);
        }
    }

    private static void spans(Told told, ClockReach x, int state, List<Integer> run, String text) {
        for (int what = 0; what < 4; what++) {
            Check.same("spans(" + state + ", " + what + ") way " + text, x.spans(state, what), span(told, run, what));
        }
    }

    /** A unit is so great here that all strictness together stays below it. */
    private static long span(Told told, List<Integer> run, int what) {
        long unit = 1 << 20;
        long[][] fine = moments(told, run, unit, 1);
        close(fine);
        if (!fits(fine)) {
            return -1;
        }
        int length = run.size();
        long least = -fine[0][length];
        long most = fine[length][0];
        long down = least / unit;
        switch (what) {
            case 0:
                return down;
            case 1:
                return least % unit == 0 ? 1 : 0;
            case 2:
                return most >= FREE ? Integer.MAX_VALUE : (most + unit - 1) / unit;
            default:
                return most < FREE && most % unit == 0 ? 1 : 0;
        }
    }

    private static void tells(Told told, ClockReach x, Random random) {
        int[] edges = {-1, -1, -1, -1, -1};
        List<Integer> run = new ArrayList<>();
        int here = told.start;
        boolean can = true;
        int count = random.nextInt(6);
        for (int k = 0; k < count; k++) {
            List<Integer> next = new ArrayList<>();
            for (int e = 0; e < told.edges.size(); e++) {
                if (told.edges.get(e).from == here || random.nextInt(60) == 0) {
                    next.add(e);
                }
            }
            if (next.isEmpty()) {
                break;
            }
            int e = next.get(random.nextInt(next.size()));
            can &= told.edges.get(e).from == here;
            here = told.edges.get(e).to;
            edges[k] = e;
            run.add(e);
        }
        for (int what = 0; what < 4; what++) {
            Check.same("tells" + run + " what " + what + " of " + told.text(),
                x.tells(edges[0], edges[1], edges[2], edges[3], edges[4], what), can ? span(told, run, what) : -1);
        }
    }

    private static int lastReset(Told told, List<Integer> run, int moment, int clock) {
        for (int k = moment; k > 0; k--) {
            if ((told.edges.get(run.get(k - 1)).resets >> clock & 1) == 1) {
                return k;
            }
        }
        return 0;
    }

    /** Of each two moments how much later the first one may be at most. */
    private static long[][] moments(Told told, List<Integer> run, long unit, long strict) {
        int count = run.size() + 1;
        long[][] most = new long[count][count];
        for (int i = 0; i < count; i++) {
            for (int j = 0; j < count; j++) {
                most[i][j] = i <= j ? 0 : FREE;
            }
        }
        int place = told.start;
        hold(told, run, most, told.untils.get(place), new int[] {0, 0}, unit, strict);
        for (int k = 1; k < count; k++) {
            Told.Edge edge = told.edges.get(run.get(k - 1));
            if (told.urgent[place]) {
                most[k][k - 1] = Math.min(most[k][k - 1], 0);
            }
            hold(told, run, most, told.untils.get(place), new int[] {k, k - 1}, unit, strict);
            hold(told, run, most, edge.whens, new int[] {k, k - 1}, unit, strict);
            place = edge.to;
            hold(told, run, most, told.untils.get(place), new int[] {k, k}, unit, strict);
        }
        return most;
    }

    /** when[0]: the moment, when[1]: up to which moment resets count at it. */
    private static void hold(Told told, List<Integer> run, long[][] most, List<int[]> conditions, int[] when,
            long unit, long strict) {
        for (int[] condition : conditions) {
            int back = lastReset(told, run, when[1], condition[0]);
            int moment = when[0];
            long n = condition[2] * unit;
            if (condition[1] <= 2) {
                most[moment][back] = Math.min(most[moment][back], condition[1] == 0 ? n - strict : n);
            }
            if (condition[1] >= 2) {
                most[back][moment] = Math.min(most[back][moment], condition[1] == 4 ? -n - strict : -n);
            }
        }
    }

    private static void close(long[][] most) {
        for (int k = 0; k < most.length; k++) {
            for (int i = 0; i < most.length; i++) {
                for (int j = 0; j < most.length; j++) {
                    if (most[i][k] < FREE && most[k][j] < FREE) {
                        most[i][j] = Math.min(most[i][j], most[i][k] + most[k][j]);
                    }
                }
            }
        }
    }

    private static boolean fits(long[][] most) {
        for (int i = 0; i < most.length; i++) {
            if (most[i][i] < 0) {
                return false;
            }
        }
        return true;
    }
}
