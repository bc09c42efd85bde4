/** Promises 28 to 35: RUNS with their TIMES, what they take, how soon, and by which numbers. */
public final class RunsTest {
    private static final String TEXT = "clock x;clock y;place a until x<=4;place b urgent;place c until y<3;place d;"
        + "edge a b when x>1 reset y;edge b c when x<3;edge c d when y>=2 reset x;";

    public static void main(String[] args) {
        for (int way = 0; way <= 2; way++) {
            times(way);
        }
        spans();
        tells();
        latest();
        atTheEnds();
        without();
        soonest();
        soonToSixty();
        soonFull();
        lets();
        longRun();
        Check.finish("RunsTest");
    }

    private static ClockReach made(int way) {
        ClockReach x = Check.of(TEXT);
        Check.same("graph", x.graph(way, true), 4);
        return x;
    }

    private static void times(int way) {
        ClockReach x = made(way);
        int[] when = {257, 257, 769};
        int[][] then = {{257, 0}, {257, 0}, {0, 512}};
        for (int k = 0; k < 3; k++) {
            Check.same("run(3, " + k + ")", x.run(3, k), k);
            Check.same("when(3, " + k + ")", x.when(3, k), when[k]);
            for (int c = 0; c < 2; c++) {
                Check.same("then(3, " + k + ", " + c + ")", x.then(3, k, c), then[k][c]);
            }
            Check.same("then(3, " + k + ", 2)", x.then(3, k, 2), -1);
            Check.same("then(3, " + k + ", -1)", x.then(3, k, -1), -1);
        }
        int[] wrong = {-1, 3, 4, 119, Integer.MIN_VALUE, Integer.MAX_VALUE};
        for (int k : wrong) {
            Check.same("run(3, " + k + ")", x.run(3, k), -1);
            Check.same("when(3, " + k + ")", x.when(3, k), -1);
            Check.same("then(3, " + k + ", 0)", x.then(3, k, 0), -1);
            Check.same("latest(3, " + k + ", 10)", x.latest(3, k, 10), -1);
        }
        for (int state : new int[] {-1, 4, Integer.MIN_VALUE, Integer.MAX_VALUE}) {
            Check.same("run(" + state + ", 0)", x.run(state, 0), -1);
            Check.same("when(" + state + ", 0)", x.when(state, 0), -1);
            Check.same("then(" + state + ", 0, 0)", x.then(state, 0, 0), -1);
            Check.same("spans(" + state + ", 0)", x.spans(state, 0), -1);
            Check.same("latest(" + state + ", 0, 10)", x.latest(state, 0, 10), -1);
        }
        Check.same("run(0, 0)", x.run(0, 0), -1);
        Check.same("when(0, 0)", x.when(0, 0), -1);
    }

    private static void spans() {
        int[][] spans = {{0, 1, 0, 1, -1}, {1, 0, 4, 1, -1}, {1, 0, 3, 0, -1}, {3, 0, 6, 0, -1}};
        for (int way = 0; way <= 2; way++) {
            ClockReach x = made(way);
            for (int s = 0; s < 4; s++) {
                for (int what = 0; what < 5; what++) {
                    Check.same("spans(" + s + ", " + what + ") way " + way, x.spans(s, what), spans[s][what]);
                }
                Check.same("spans(" + s + ", -1)", x.spans(s, -1), -1);
            }
        }
        ClockReach x = Check.of("clock x;place a;place b;edge a b when x>=2;edge b a when x<=7;");
        x.graph(0, false);
        int[][] open = {{0, 1, 0, 1}, {2, 1, Integer.MAX_VALUE, 0}, {2, 1, 7, 1}};
        for (int s = 0; s < 3; s++) {
            for (int what = 0; what < 4; what++) {
                Check.same("spans(" + s + ", " + what + ")", x.spans(s, what), open[s][what]);
            }
        }
    }

    private static void tells() {
        ClockReach x = Check.of(TEXT);
        int[] three = {3, 0, 6, 0, -1};
        int[] one = {1, 0, 4, 1, -1};
        int[] none = {0, 1, 0, 1, -1};
        for (int what = 0; what < 5; what++) {
            Check.same("tells(0, 1, 2) " + what, x.tells(0, 1, 2, -1, -1, what), three[what]);
            Check.same("tells(0) " + what, x.tells(0, -1, 99, -99, 2, what), one[what]);
            Check.same("tells() " + what, x.tells(-1, 0, 0, 0, 0, what), none[what]);
        }
        Check.same("tells what -1", x.tells(0, -1, -1, -1, -1, -1), -1);
        Check.same("an EDGE from elsewhere", x.tells(1, -1, -1, -1, -1, 0), -1);
        Check.same("an EDGE from elsewhere", x.tells(0, 2, -1, -1, -1, 0), -1);
        Check.same("an EDGE that is none", x.tells(3, -1, -1, -1, -1, 0), -1);
        Check.same("an EDGE that is none", x.tells(0, 1, 2, -2, -1, 0), -1);
        Check.same("an EDGE that is none", x.tells(0, Integer.MIN_VALUE, -1, -1, -1, 0), -1);
        Check.same("an EDGE that is none", x.tells(0, Integer.MAX_VALUE, -1, -1, -1, 0), -1);
        x = Check.of("clock x;place a until x<=2;edge a a when x=2 reset x;edge a a when x>2;");
        Check.same("five EDGES", x.tells(0, 0, 0, 0, 0, 0), 10);
        Check.same("five EDGES", x.tells(0, 0, 0, 0, 0, 2), 10);
        Check.same("five EDGES", x.tells(0, 0, 0, 0, 0, 3), 1);
        Check.same("the fifth can't be", x.tells(0, 0, 0, 0, 1, 0), -1);
        Check.same("no GRAPH by that", x.about(5), -1);
        Check.same("no such run", Check.of("clock x;place a until x<0;").tells(-1, -1, -1, -1, -1, 0), -1);
        Check.same("no PLACES", new ClockReach().tells(-1, -1, -1, -1, -1, 0), -1);
    }

    private static void latest() {
        ClockReach x = made(2);
        int[][] latest = {{1000, 767, 767, 1534}, {10, 767, 767, 1534}, {6, 767, 767, 1534}, {5, 767, 767, 1280},
            {4, 512, 512, 1024}, {3, -1, -1, -1}, {0, -1, -1, -1}, {1001, -1, -1, -1}, {-1, -1, -1, -1},
            {Integer.MAX_VALUE, -1, -1, -1}, {Integer.MIN_VALUE, -1, -1, -1}};
        for (int[] row : latest) {
            for (int k = 0; k < 3; k++) {
                Check.same("latest(3, " + k + ", " + row[0] + ")", x.latest(3, k, row[0]), row[k + 1]);
            }
        }
        x = Check.of("clock x;place a;place b;edge a b;");
        x.graph(0, true);
        Check.same("latest(1, 0, 0)", x.latest(1, 0, 0), 0);
        Check.same("latest(1, 0, 1000)", x.latest(1, 0, 1000), 256000);
        Check.same("latest(0, 0, 1000)", x.latest(0, 0, 1000), -1);
    }

    /** Where conditions of the last PLACE, or of one that is left at once, push moments about. */
    private static void atTheEnds() {
        // b is come to at y below 1 only: y is set back at the first edge, which has to wait for x
        ClockReach x = Check.of("clock x;clock y;place a;place b;place c until y<1;"
            + "edge a b reset y;edge b c when x>=5;");
        x.graph(0, true);
        Check.same("the first one waits for the second", x.when(2, 0), 5 * 256 - 255);
        Check.same("the second one", x.when(2, 1), 5 * 256);
        Check.same("y then", x.then(2, 1, 1), 255);
        Check.same("x then", x.then(2, 1, 0), 1280);
        // the place behind the last edge need not be stayed in
        x = Check.of("clock x;place a;place b until x<=3;edge a b when x>=3;");
        x.graph(0, true);
        Check.same("just then", x.when(1, 0), 768);
        Check.same("just then", x.spans(1, 2), 3);
        // both urgent: all at 0
        x = Check.of("clock x;place a urgent;place b urgent;place c;edge a b;edge b c;");
        x.graph(0, true);
        Check.same("at once", x.when(2, 1), 0);
        Check.same("at once", x.spans(2, 2), 0);
        Check.same("at once", x.latest(2, 1, 9), 0);
    }

    private static void without() {
        ClockReach x = Check.of(TEXT);
        Check.same("run without a GRAPH", x.run(0, 0), -1);
        Check.same("when without a GRAPH", x.when(1, 0), -1);
        Check.same("then without a GRAPH", x.then(1, 0, 0), -1);
        Check.same("spans without a GRAPH", x.spans(0, 0), -1);
        Check.same("latest without a GRAPH", x.latest(1, 0, 10), -1);
    }

    private static void soonest() {
        ClockReach x = Check.of(TEXT + "place e;edge d e when x<0;");
        int[][] soonest = {{0, 1}, {1, 0}, {1, 0}, {3, 0}, {-1, -1}};
        for (int p = 0; p < 5; p++) {
            for (int what = 0; what < 2; what++) {
                Check.same("soonest(" + p + ", " + what + ")", x.soonest(p, what), soonest[p][what]);
            }
            Check.same("soonest(" + p + ", 2)", x.soonest(p, 2), -1);
            Check.same("soonest(" + p + ", -1)", x.soonest(p, -1), -1);
        }
        Check.same("soonest(5, 0)", x.soonest(5, 0), -1);
        Check.same("soonest(-1, 0)", x.soonest(-1, 0), -1);
        Check.same("no GRAPH by that", x.about(5), -1);
        x.number(0, 0, 2);
        Check.same("by another number", x.soonest(3, 0), 4);
        x.undo();
        Check.same("and back", x.soonest(3, 0), 3);
        x.urgent(0, true);
        Check.same("not at all", x.soonest(3, 0), -1);
        // the second way is the sooner one, and of two alike the one that may be just that
        x = Check.of("clock x;place a;place b;edge a b when x>5;edge a b when x>=4;edge a b when x>4;");
        Check.same("the least", x.soonest(1, 0), 4);
        Check.same("just that", x.soonest(1, 1), 1);
    }

    private static void soonToSixty() {
        String text = "clock x;place a;place b;place c;place d;place e;edge a b when x>=20 reset x;"
            + "edge b c when x>=20 reset x;edge c d when x>=20 reset x;edge d e when x>=0;";
        ClockReach x = Check.of(text);
        Check.same("soonest(3, 0)", x.soonest(3, 0), 60);
        Check.same("soonest(3, 1)", x.soonest(3, 1), 1);
        Check.same("soonest(4, 0)", x.soonest(4, 0), 60);
        x.number(3, 0, 1);
        Check.same("61 is above 60", x.soonest(4, 0), -1);
        Check.same("61 is above 60", x.soonest(4, 1), -1);
        Check.same("60", x.soonest(3, 0), 60);
        x = Check.of(text.replace("edge c d when x>=20", "edge c d when x>20"));
        Check.same("above 60", x.soonest(3, 0), -1);
        Check.same("above 60", x.soonest(3, 1), -1);
        x.number(2, 0, 19);
        Check.same("above 59", x.soonest(3, 0), 59);
        Check.same("above 59", x.soonest(3, 1), 0);
    }

    /** 400 STATES of SOON, as the plain graph counts them; with one number greater 401. */
    private static void soonFull() {
        ClockReach x = Check.of("clock x;clock y;clock z;"
            + "place a until x<=1;place b until x<=1;place c until x<=1;place d;"
            + "edge a a when x=1 reset x;edge a a when x=1 reset x reset y;edge a a when x=1 reset x reset z;"
            + "edge a b when y=0 reset x reset y reset z;edge a b when z=16 reset x reset y reset z;"
            + "edge b b when x=1 when z<=12 reset x;edge b c reset x reset y reset z;"
            + "edge c c when x=1 when z<=10 reset x;edge c d reset x reset y reset z;");
        Check.same("d", x.soonest(3, 0), 0);
        Check.same("d", x.soonest(3, 1), 1);
        x.number(7, 1, 11);
        for (int p = 0; p < 4; p++) {
            Check.same("FULL", x.soonest(p, 0), -2);
            Check.same("FULL", x.soonest(p, 1), -2);
        }
        Check.same("FULL, of no PLACE", x.soonest(4, 0), -1);
        Check.same("FULL, another what", x.soonest(0, 2), -1);
        x.undo();
        Check.same("a", x.soonest(0, 0), 0);
    }

    private static void lets() {
        ClockReach x = Check.of("clock x;place a until x<=5;place b;place c;edge a b when x>=3 when x<9;");
        x.graph(0, false);
        x.begin();
        int[][] calls = {{0, 0, 1, 0, 0}, {0, 0, 1, 1, 5}, {100, 0, 1, 0, 3}, {100, 0, 1, 1, 20}, {0, 1, 1, 0, 4},
            {0, 1, 1, 1, 20}, {0, 0, 0, 0, 0}, {0, 0, 0, 1, 20}, {0, 0, 2, 0, -2}, {0, 0, 2, 1, -2}, {0, 0, 1, 2, -1},
            {0, 0, 1, -1, -1}, {0, 2, 1, 0, -1}, {0, -1, 1, 0, -1}, {1, 0, 1, 0, -1}, {-1, 0, 1, 0, -1},
            {101, 0, 1, 0, -1}, {103, 0, 1, 0, -1}, {0, 0, 3, 0, -1}, {0, 0, -1, 0, -1}};
        for (int[] c : calls) {
            Check.same("lets(" + c[0] + ", " + c[1] + ", " + c[2] + ", " + c[3] + ")",
                x.lets(c[0], c[1], c[2], c[3]), c[4]);
        }
        Check.same("the GRAPH stays", x.about(5), 2);
        Check.same("the PLAY stays", x.now(0), 0);
        Check.same("no ACT", x.about(8), 0);
        Check.same("the number stays", x.condition(0, 0, 2), 3);
        Check.same("the limits stay", x.limit(0, 0), 9);
        x = Check.of("clock x;place a until x<1;place b;edge a b when x>3;");
        Check.same("the least by which it begins and goes on", x.lets(100, 0, 1, 0), 4);
        Check.same("the least by which it begins", x.lets(100, 0, 0, 0), 1);
        // reached by some numbers in between alone
        x = Check.of("clock x;place a until x<=9;place b;edge a b when x=1 when x>=4;");
        Check.same("the least", x.lets(0, 0, 1, 0), 4);
        Check.same("the greatest", x.lets(0, 0, 1, 1), 9);
    }

    /** A RUN of 119 EDGES, each just a unit behind the one ahead. */
    private static void longRun() {
        ClockReach x = Check.of("clock x;clock y;place a until x<=1;edge a a when x=1 reset x;");
        Check.same("graph", x.graph(0, true), 120);
        Check.same("FULL", x.about(6), 1);
        Check.same("the RUN", x.state(119, 3), 119);
        Check.same("run(119, 118)", x.run(119, 118), 0);
        Check.same("when(119, 118)", x.when(119, 118), 119 * 256);
        Check.same("then(119, 118, 1)", x.then(119, 118, 1), 119 * 256);
        Check.same("spans(119, 0)", x.spans(119, 0), 119);
        Check.same("latest(119, 118, 119)", x.latest(119, 118, 119), 119 * 256);
        Check.same("latest(119, 118, 118)", x.latest(119, 118, 118), -1);
        Check.same("replays(119)", x.replays(119), true);
        Check.same("now(1)", x.now(1), 119 * 256);
    }
}
