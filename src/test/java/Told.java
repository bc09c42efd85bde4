import java.util.ArrayList;
import java.util.List;
import java.util.Random;

/** An AUTOMATON as a test made it, with its text: what the oracles work on, apart from the program. */
final class Told {
    static final String[] CLOCK_NAMES = {"x", "y", "z"};
    static final String[] PLACE_NAMES = {"a", "bb", "ccc", "d", "e", "f", "g", "h"};
    static final String[] SIGNS = {"<", "< =", "=", "> =", ">"};

    /** {clock, how, n} each. */
    static final class Edge {
        int from;
        int to;
        int resets;
        final List<int[]> whens = new ArrayList<>();
    }

    int clocks;
    int places;
    int start;
    final boolean[] urgent = new boolean[8];
    final List<List<int[]>> untils = new ArrayList<>();
    final List<Edge> edges = new ArrayList<>();

    static Told random(Random random, int clocks, int greatest) {
        Told t = new Told();
        t.clocks = clocks;
        t.places = 2 + random.nextInt(4);
        t.start = random.nextInt(t.places);
        for (int p = 0; p < t.places; p++) {
            t.urgent[p] = random.nextInt(5) == 0;
            List<int[]> list = new ArrayList<>();
            int count = clocks == 0 || random.nextInt(2) == 0 ? 0 : 1 + random.nextInt(2);
            for (int k = 0; k < count; k++) {
                int how = random.nextInt(4) == 0 ? 0 : 1;
                list.add(new int[] {random.nextInt(clocks), how, random.nextInt(greatest) + (random.nextInt(8) == 0 ? 0 : 1)});
            }
            t.untils.add(list);
        }
        int edges = t.places + random.nextInt(5);
        for (int e = 0; e < edges; e++) {
            Edge edge = new Edge();
            edge.from = random.nextInt(t.places);
            edge.to = random.nextInt(t.places);
            int count = clocks == 0 ? 0 : random.nextInt(3);
            for (int k = 0; k < count; k++) {
                edge.whens.add(new int[] {random.nextInt(clocks), random.nextInt(5), random.nextInt(greatest + 1)});
            }
            edge.resets = clocks == 0 ? 0 : random.nextInt(1 << clocks);
            t.edges.add(edge);
        }
        return t;
    }

    String text() {
        StringBuilder text = new StringBuilder();
        for (int c = 0; c < clocks; c++) {
            text.append("clock ").append(CLOCK_NAMES[c]).append(";");
        }
        for (int p = 0; p < places; p++) {
            text.append("place ").append(PLACE_NAMES[p]).append(urgent[p] ? " urgent" : "");
            tell(text, "until", untils.get(p));
            text.append(";\n");
        }
        text.append("start ").append(PLACE_NAMES[start]).append(";");
        for (Edge edge : edges) {
            text.append("edge ").append(PLACE_NAMES[edge.from]).append(" ").append(PLACE_NAMES[edge.to]);
            tell(text, "when", edge.whens);
            for (int c = 0; c < clocks; c++) {
                if ((edge.resets >> c & 1) == 1) {
                    text.append(" reset ").append(CLOCK_NAMES[c]);
                }
            }
            text.append(";");
        }
        return text.toString();
    }

    private static void tell(StringBuilder text, String word, List<int[]> conditions) {
        for (int[] condition : conditions) {
            text.append(" ").append(word).append(" ").append(CLOCK_NAMES[condition[0]]).append(" ")
                .append(SIGNS[condition[1]]).append(condition[2]);
        }
    }

    List<int[]> allConditions() {
        List<int[]> all = new ArrayList<>();
        for (List<int[]> list : untils) {
            all.addAll(list);
        }
        for (Edge edge : edges) {
            all.addAll(edge.whens);
        }
        return all;
    }

    /** What 0: the greatest N with a clock, 1: of > , > = , = , 2: of < , < = , =. */
    int limit(int clock, int what) {
        int limit = 0;
        for (int[] condition : allConditions()) {
            boolean counts = what == 0 || what == 1 && condition[1] >= 2 || what == 2 && condition[1] <= 2;
            if (condition[0] == clock && counts) {
                limit = Math.max(limit, condition[2]);
            }
        }
        return limit;
    }

    /** Whether a value, told in parts of 1 / scale, meets a condition. */
    static boolean meets(int[] condition, long value, long scale) {
        long n = condition[2] * scale;
        switch (condition[1]) {
            case 0:
                return value < n;
            case 1:
                return value <= n;
            case 2:
                return value == n;
            case 3:
                return value >= n;
            default:
                return value > n;
        }
    }

    static boolean meetsAll(List<int[]> conditions, long[] values, long scale) {
        for (int[] condition : conditions) {
            if (!meets(condition, values[condition[0]], scale)) {
                return false;
            }
        }
        return true;
    }

    long[] behind(Edge edge, long[] values) {
        long[] behind = values.clone();
        for (int c = 0; c < clocks; c++) {
            if ((edge.resets >> c & 1) == 1) {
                behind[c] = 0;
            }
        }
        return behind;
    }

    boolean canTake(Edge edge, long[] values, long scale) {
        return meetsAll(edge.whens, values, scale) && meetsAll(untils.get(edge.to), behind(edge, values), scale);
    }
}
