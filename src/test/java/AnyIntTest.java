import java.util.ArrayList;
import java.util.List;

/** Any int as an argument of any call: what can not be is refused, doing nothing; and 512 calls on one object. */
public final class AnyIntTest {
    private static final String TEXT = "clock x;clock y;place a until x<=4;place b urgent;place c until y<9;"
        + "edge a b when x>1 when y<8 reset x;edge b c;edge c a when y>=2 reset x reset y;";
    private static final int STATES = 3;
    private static final int ANY = Integer.MAX_VALUE;
    private static final int[] ODD = {Integer.MIN_VALUE, Integer.MIN_VALUE + 1, -1000000, -257, -129, -101, -100, -32, -2, -1,
        0, 1, 2, 3, 4, 5, 6, 7, 8, 9, 10, 13, 14, 15, 16, 20, 21, 22, 31, 32, 33, 59, 60, 61, 63, 64, 65, 98, 99, 100, 101,
        102, 103, 104, 107, 108, 119, 120, 121, 127, 128, 255, 256, 257, 399, 400, 900, 901, 999, 1000, 1001, 5120, 25599,
        25600, 25601, 65535, 65536, 1 << 24, 1 << 30, Integer.MAX_VALUE - 1, Integer.MAX_VALUE};

    /** A call that can be, with which of its arguments are looked at: from a least to a greatest each. */
    private static final class Row {
        final String name;
        final long refusal;
        final int[] args;
        final int[] least;
        final int[] most;

        Row(String name, long refusal, int... triples) {
            this.name = name;
            this.refusal = refusal;
            int count = triples.length / 3;
            args = new int[count];
            least = new int[count];
            most = new int[count];
            for (int i = 0; i < count; i++) {
                args[i] = triples[3 * i];
                least[i] = triples[3 * i + 1];
                most[i] = triples[3 * i + 2];
            }
        }
    }

    public static void main(String[] args) {
        for (Row row : rows()) {
            for (int at = 0; at < row.args.length; at++) {
                for (int value : ODD) {
                    look(row, at, value);
                }
            }
            looksAtAll(row);
        }
        feedTakesAny();
        timesOfAnySize();
        hostsThatAreNot();
        manyCalls();
        Check.finish("AnyIntTest");
    }

    /** Each argument: one that can be, the least, the greatest. Where all can be, ANY stands for both. */
    private static List<Row> rows() {
        List<Row> rows = new ArrayList<>();
        rows.add(new Row("end", -1, 5, 0, 7));
        rows.add(new Row("fault", -1, 0, 0, 1));
        rows.add(new Row("about", -1, 1, 0, 9));
        rows.add(new Row("place", -1, 0, 0, 2, 1, 0, 3));
        rows.add(new Row("edge", -1, 0, 0, 2, 2, 0, 3));
        rows.add(new Row("limit", -1, 0, 0, 1, 0, 0, 2));
        rows.add(new Row("condition", -1, 0, 0, 0, 1, 0, 1, 2, 0, 2));
        rows.add(new Row("condition", -1, 100, ANY, ANY, 0, 0, 0, 2, 0, 2));
        rows.add(new Row("number", -1, 0, 0, 0, 1, 0, 1, 5, 0, 20));
        rows.add(new Row("urgent", 0, 0, 0, 2, 1, ANY, ANY));
        rows.add(new Row("graph", -1, 0, 0, 2, 1, ANY, ANY));
        rows.add(new Row("state", -1, 1, 0, STATES - 1, 0, 0, 5));
        rows.add(new Row("bound", Integer.MIN_VALUE, 1, 0, STATES - 1, 0, -1, 1, 1, -1, 1, 0, 0, 1));
        rows.add(new Row("within", -1, 1, 0, STATES - 1, 2, 0, STATES - 1));
        rows.add(new Row("overlap", -1, 1, 0, STATES - 1, 2, 0, STATES - 1));
        rows.add(new Row("has", -1, 1, 0, STATES - 1, 300, ANY, ANY, 300, ANY, ANY, 0, ANY, ANY));
        rows.add(new Row("first", -1, 1, 0, 2));
        rows.add(new Row("covered", -1, 1, 0, STATES - 1));
        rows.add(new Row("points", -1, 1, 0, STATES - 1));
        rows.add(new Row("from", -1, 0, 0, 2, 1, 0, 60, 2, 0, 60, 0, ANY, ANY, 2, 0, 2));
        rows.add(new Row("avoids", -1, 1, 0, 2, 2, 0, 2));
        rows.add(new Row("run", -1, 2, 2, STATES - 1, 1, 0, 1));
        rows.add(new Row("when", -1, 2, 2, STATES - 1, 1, 0, 1));
        rows.add(new Row("then", -1, 2, 2, STATES - 1, 1, 0, 1, 0, 0, 1));
        rows.add(new Row("spans", -1, 2, 0, STATES - 1, 0, 0, 3));
        rows.add(new Row("tells", -1, 0, -1, 0, -1, ANY, ANY, 3, ANY, ANY, 3, ANY, ANY, 3, ANY, ANY, 0, 0, 3));
        rows.add(new Row("latest", -1, 2, 2, STATES - 1, 1, 0, 1, 9, 2, 1000));
        rows.add(new Row("soonest", -1, 1, 0, 2, 0, 0, 1));
        rows.add(new Row("lets", -1, 0, 0, 0, 1, 0, 1, 1, 0, 2, 0, 0, 1));
        rows.add(new Row("waits", 0, 5, 0, 1024 - 300));
        rows.add(new Row("takes", -1, 0, 0, 0));
        rows.add(new Row("now", -1, 0, 0, 3));
        rows.add(new Row("clock", Calls.THROWS, 0, 0, 1));
        return rows;
    }

    /** A GRAPH, a PLAY at 300 TIMES, an ACT, seven bytes on the TAPE. */
    private static ClockReach made() {
        ClockReach x = Check.of(TEXT);
        x.number(0, 1, 7);
        Check.same("STATES", x.graph(0, true), STATES);
        x.begin();
        x.waits(300);
        Check.tape(x, "place a");
        return x;
    }

    private static void look(Row row, int at, int value) {
        boolean any = row.least[at] == ANY;
        boolean can = any || value >= row.least[at] && value <= row.most[at];
        int[] args = row.args.clone();
        args[at] = value;
        ClockReach x = made();
        if (can) {
            Calls.call(x, row.name, args);
            return;
        }
        List<Long> before = Calls.seen(x);
        Calls.due(x, row.refusal, row.name, args);
        Check.same(Calls.told(row.name, args) + " does nothing", Calls.seen(x).equals(before), true);
        Check.same(Calls.told(row.name, args) + " leaves the TAPE", x.about(9), 7);
    }

    /** The call with which the others are compared is one that can be. */
    private static void looksAtAll(Row row) {
        ClockReach x = made();
        long answer = Calls.call(x, row.name, row.args);
        Check.same(Calls.told(row.name, row.args) + " can be", answer != row.refusal, true);
    }

    /** Every int is four bytes. */
    private static void feedTakesAny() {
        for (int value : ODD) {
            ClockReach x = new ClockReach();
            Calls.due(x, 20, "feed", value, value, value, value, value);
            Calls.due(x, 40, "feed", 0x20202020, value, 0x20202020, ~value, -value);
            x.automaton();
            Calls.due(x, 0, "about", 9);
        }
    }

    /** Differences of TIMES do not wrap around. */
    private static void timesOfAnySize() {
        ClockReach x = Check.of("clock x;clock y;place a;place b;edge a b reset y;");
        x.graph(0, true);
        int[][] calls = {{1, Integer.MAX_VALUE, 0, 1}, {1, Integer.MAX_VALUE, Integer.MAX_VALUE, 1}, {1, 0, Integer.MAX_VALUE, 0},
            {1, Integer.MIN_VALUE, Integer.MAX_VALUE, 0}, {1, Integer.MAX_VALUE, Integer.MIN_VALUE, 0},
            {1, Integer.MIN_VALUE, Integer.MIN_VALUE, 0}, {0, Integer.MAX_VALUE, Integer.MAX_VALUE, 1},
            {0, Integer.MAX_VALUE, Integer.MAX_VALUE - 1, 0}, {0, Integer.MIN_VALUE, Integer.MIN_VALUE, 0}};
        for (int[] c : calls) {
            Calls.due(x, c[3], "has", c[0], c[1], c[2], 0);
        }
    }

    /** "EDGE" 100 + p: no int but these is a PLACE's, nor one that wraps around to it. */
    private static void hostsThatAreNot() {
        ClockReach x = Check.of("clock x;place a until x<1;place b until x<2;edge a a when x<3;");
        int[] hosts = {Integer.MIN_VALUE, Integer.MIN_VALUE + 100, -100, -1, 1, 14, 15, 21, 22, 99, 102, 108, 114, 200, 356,
            Integer.MAX_VALUE - 99, Integer.MAX_VALUE};
        for (int host : hosts) {
            Calls.due(x, -1, "condition", host, 0, 2);
            Calls.due(x, -1, "number", host, 0, 9);
            Calls.due(x, -1, "lets", host, 0, 0, 0);
        }
        Calls.due(x, 1, "condition", 100, 0, 2);
        Calls.due(x, 2, "condition", 101, 0, 2);
        Calls.due(x, 3, "condition", 0, 0, 2);
    }

    /** The 512th call answers as the first ones do. */
    private static void manyCalls() {
        ClockReach x = new ClockReach();
        int calls = 0;
        x.feed(0x636c6f63, 0x6b20783b, 0x706c6163, 0x65206120, 0x756e7469);
        x.feed(0x6c20783c, 0x3d343b70, 0x6c616365, 0x20623b65, 0x64676520);
        x.feed(0x61206220, 0x7768656e, 0x20783e3d, 0x323b2020, 0x20202020);
        x.end(54);
        Check.same("automaton", x.automaton(), 2);
        calls += 5;
        for (int n = 0; calls + 6 <= 512; n++) {
            int old = n % 2 == 0 ? 2 : 3;
            Check.same("number", x.number(0, 0, n % 2 == 0 ? 3 : 2), old);
            Check.same("graph", x.graph(n % 3, n % 5 == 0), 2);
            Check.same("when", x.when(1, 0), 256 * (5 - old));
            Check.same("soonest", x.soonest(1, 0), 5 - old);
            Check.same("lets", x.lets(0, 0, 1, 1), 4);
            Check.same("replays", x.replays(1), true);
            calls += 6;
        }
        while (calls < 512) {
            Check.same("now", x.now(0), 1);
            calls++;
        }
    }
}
