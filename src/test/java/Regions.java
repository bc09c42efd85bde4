import java.util.ArrayDeque;
import java.util.Arrays;
import java.util.HashSet;
import java.util.List;
import java.util.Set;

/** What can be reached, by regions of values and not by zones: an answer found in another way. */
final class Regions {
    private final Told told;
    private final int count;
    private final long scale;
    private final int[] caps;
    private final Set<List<Long>> seen = new HashSet<>();
    private final ArrayDeque<long[]> open = new ArrayDeque<>();
    int reached;
    int taken;
    /** Of each place the least time: 2n if it may be n, 2n + 1 if only above n. */
    final long[] soonest = new long[8];

    /** units: where the clocks begin; with time, one clock more that is never set back is told to 60. */
    Regions(Told told, int place, int[] units, int avoided, boolean time) {
        this.told = told;
        count = told.clocks + (time ? 1 : 0);
        scale = 2L * count + 2;
        caps = new int[count];
        Arrays.fill(soonest, Long.MAX_VALUE);
        for (int c = 0; c < count; c++) {
            caps[c] = c < told.clocks ? told.limit(c, 0) : 60;
        }
        long[] begin = new long[count + 1];
        for (int c = 0; c < told.clocks; c++) {
            begin[c] = units[c] * scale;
        }
        begin[count] = place;
        if (place != avoided && Told.meetsAll(told.untils.get(place), begin, scale)) {
            visit(begin);
        }
        while (!open.isEmpty()) {
            goOn(open.poll(), avoided, time);
        }
    }

    private void visit(long[] point) {
        long[] plain = normal(point);
        List<Long> key = Arrays.stream(plain).boxed().toList();
        if (seen.add(key)) {
            open.add(plain);
        }
    }

    /** Fractions become 2, 4, 6 .. by their order; values above the greatest number become one value. */
    private long[] normal(long[] point) {
        long[] plain = point.clone();
        for (int c = 0; c < count; c++) {
            if (point[c] > caps[c] * scale) {
                plain[c] = caps[c] * scale + 1;
                continue;
            }
            long part = point[c] % scale;
            Set<Long> less = new HashSet<>();
            for (int d = 0; d < count; d++) {
                long other = point[d] % scale;
                if (point[d] <= caps[d] * scale && other > 0 && other < part) {
                    less.add(other);
                }
            }
            plain[c] = point[c] - part + (part == 0 ? 0 : 2L * (less.size() + 1));
        }
        return plain;
    }

    private void goOn(long[] point, int avoided, boolean time) {
        int place = (int) point[count];
        reached |= 1 << place;
        if (time) {
            long t = point[told.clocks];
            soonest[place] = Math.min(soonest[place], 2 * (t / scale) + (t % scale == 0 ? 0 : 1));
        }
        for (int e = 0; e < told.edges.size(); e++) {
            Told.Edge edge = told.edges.get(e);
            if (edge.from == place && edge.to != avoided && told.canTake(edge, point, scale)) {
                taken |= 1 << e;
                long[] next = told.behind(edge, point);
                next[count] = edge.to;
                visit(next);
            }
        }
        if (!told.urgent[place]) {
            long[] later = later(point);
            if (Told.meetsAll(told.untils.get(place), later, scale)) {
                visit(later);
            }
        }
    }

    private long[] later(long[] point) {
        boolean whole = false;
        long greatest = 0;
        for (int c = 0; c < count; c++) {
            if (point[c] <= caps[c] * scale) {
                whole |= point[c] % scale == 0;
                greatest = Math.max(greatest, point[c] % scale);
            }
        }
        long[] later = point.clone();
        for (int c = 0; c < count; c++) {
            later[c] += whole ? 1 : scale - greatest;
        }
        return later;
    }
}
