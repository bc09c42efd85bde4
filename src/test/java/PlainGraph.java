import java.util.ArrayList;
import java.util.List;

/** The GRAPH worked out in the plainest way. */
final class PlainGraph {
    final Told told;
    final List<Bounds> zones = new ArrayList<>();
    final List<int[]> states = new ArrayList<>();
    boolean full;
    int taken;
    private final int[] high;
    private final int[] low;
    private final int way;

    /** begin: values with the zero ahead, one more clock behind for SOON. */
    PlainGraph(Told told, int way, boolean leaves, int place, int[] begin, int most) {
        this.told = told;
        this.way = way;
        high = new int[begin.length];
        low = new int[begin.length];
        for (int i = 1; i < begin.length; i++) {
            boolean more = i > told.clocks;
            high[i] = more ? 0 : told.limit(i - 1, way == 1 ? 0 : 1);
            low[i] = more ? 60 : told.limit(i - 1, way == 1 ? 0 : 2);
        }
        Bounds first = Bounds.point(begin);
        if (!first.meet(told.untils.get(place))) {
            return;
        }
        settle(first, place);
        add(first, place, -1, -1);
        for (int s = 0; s < states.size(); s++) {
            for (int e = 0; e < told.edges.size(); e++) {
                step(s, e, leaves, most);
            }
        }
    }

    private void add(Bounds zone, int place, int parent, int edge) {
        zones.add(zone);
        states.add(new int[] {place, parent, edge, parent < 0 ? 0 : states.get(parent)[3] + 1, 0});
        if (parent >= 0) {
            states.get(parent)[4]++;
        }
    }

    private void settle(Bounds zone, int place) {
        if (!told.urgent[place]) {
            zone.delay();
            zone.meet(told.untils.get(place));
        }
        if (way > 0) {
            zone.forget(high, low);
        }
    }

    private void step(int s, int e, boolean leaves, int most) {
        Told.Edge edge = told.edges.get(e);
        if (edge.from != states.get(s)[0]) {
            return;
        }
        Bounds zone = zones.get(s).copy();
        if (!zone.meet(edge.whens)) {
            return;
        }
        for (int c = 0; c < told.clocks; c++) {
            if ((edge.resets >> c & 1) == 1) {
                zone.reset(c);
            }
        }
        if (!zone.meet(told.untils.get(edge.to))) {
            return;
        }
        taken |= 1 << e;
        settle(zone, edge.to);
        for (int i = 0; i < states.size(); i++) {
            if (states.get(i)[0] == edge.to) {
                boolean holds = zones.get(i).hasAll(zone);
                if (holds && (leaves || zone.hasAll(zones.get(i)))) {
                    return;
                }
            }
        }
        if (states.size() == most) {
            full = true;
        } else {
            add(zone, edge.to, s, e);
        }
    }

    int reached() {
        int bits = 0;
        for (int[] state : states) {
            bits |= 1 << state[0];
        }
        return bits;
    }
}
