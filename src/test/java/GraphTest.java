/** Promises 14 to 27: the GRAPH and what is asked of it. */
public final class GraphTest {
    private static final String LAMP = "clock x;place off;place low;place bright;"
        + "edge off low reset x;edge low bright when x<5;edge low off when x>=5;edge bright off;";

    public static void main(String[] args) {
        lamp();
        leavingOut();
        wrongInputs();
        forgotten();
        closedBehind();
        exactlyFull();
        noFirst();
        noClocks();
        stuck();
        stuckAmongMany();
        leavesOutBeside();
        coveredByMany();
        whole();
        urgentRings();
        begunElsewhere();
        goneRound();
        Check.finish("GraphTest");
    }

    private static void lamp() {
        ClockReach x = Check.of(LAMP);
        Check.same("graph", x.graph(0, false), 4);
        Check.same("states", x.about(5), 4);
        Check.same("full", x.about(6), 0);
        Check.same("way", x.about(7), 0);
        int[][] states = {{0, -1, -1, 0, 1, 0, -1}, {1, 0, 0, 1, 2, 0, -1}, {2, 1, 1, 2, 0, 0, -1}, {0, 1, 2, 2, 0, 0, -1}};
        for (int s = 0; s < 4; s++) {
            for (int what = 0; what < 7; what++) {
                Check.same("state(" + s + ", " + what + ")", x.state(s, what), states[s][what]);
            }
        }
        Check.same("x of state 3 at least", x.bound(3, -1, 0, 0), -5);
        Check.same("just that", x.bound(3, -1, 0, 1), 1);
        Check.same("x of state 3 at most", x.bound(3, 0, -1, 0), Integer.MAX_VALUE);
        Check.same("x of state 3 at most", x.bound(3, 0, -1, 1), Integer.MAX_VALUE);
        Check.same("x less x", x.bound(3, 0, 0, 0), 0);
        Check.same("x less x", x.bound(3, 0, 0, 1), 1);
        Check.same("the ZERO", x.bound(3, -1, -1, 0), 0);
        Check.same("the ZERO", x.bound(3, -1, -1, 1), 1);
        Check.same("within(0, 3)", x.within(0, 3), 1);
        Check.same("within(3, 0)", x.within(3, 0), 0);
        Check.same("within(2, 3): PLACES are no matter", x.within(2, 3), 1);
        Check.same("overlap(3, 2)", x.overlap(3, 2), 1);
        Check.same("has(3, 1279)", x.has(3, 1279, 0, 0), 0);
        Check.same("has(3, 1280)", x.has(3, 1280, -9, 9), 1);
        Check.same("has(0, 0)", x.has(0, 0, 0, 0), 1);
        Check.same("has(0, -1)", x.has(0, -1, 0, 0), 0);
        Check.same("has(0, MAX)", x.has(0, Integer.MAX_VALUE, 0, 0), 1);
        Check.same("has(0, MIN)", x.has(0, Integer.MIN_VALUE, 0, 0), 0);
        Check.same("first(0)", x.first(0), 0);
        Check.same("first(1)", x.first(1), 1);
        Check.same("first(2)", x.first(2), 2);
        Check.same("reached", x.reached(), 7);
        Check.same("taken", x.taken(), 15);
        Check.same("covered(3)", x.covered(3), 1);
        Check.same("covered(0)", x.covered(0), 0);
        Check.same("covered(1)", x.covered(1), 0);
        Check.same("points(0)", x.points(0), 22);
        Check.same("points(3)", x.points(3), 17);
    }

    private static void leavingOut() {
        ClockReach x = Check.of(LAMP + "place never;edge off never when x<0;");
        Check.same("graph", x.graph(0, true), 3);
        Check.same("taken by one that was left out", x.taken(), 15);
        Check.same("reached", x.reached(), 7);
        Check.same("never", x.first(3), -1);
        Check.same("graph(1, true)", x.graph(1, true), 3);
        Check.same("way", x.about(7), 1);
        Check.same("graph(2, false)", x.graph(2, false), 4);
        Check.same("way", x.about(7), 2);
    }

    private static void wrongInputs() {
        ClockReach x = Check.of(LAMP);
        withoutState(x, 0);
        Check.same("first without", x.first(0), -1);
        Check.same("reached without", x.reached(), -1);
        Check.same("taken without", x.taken(), -1);
        x.graph(0, false);
        Check.same("graph(3)", x.graph(3, true), -1);
        Check.same("graph(-1)", x.graph(-1, true), -1);
        Check.same("graph(MIN)", x.graph(Integer.MIN_VALUE, true), -1);
        Check.same("the GRAPH stays", x.about(5), 4);
        Check.same("the way stays", x.about(7), 0);
        int[] none = {-1, 4, 120, 121, Integer.MIN_VALUE, Integer.MAX_VALUE};
        for (int state : none) {
            withoutState(x, state);
            Check.same("within(0, " + state + ")", x.within(0, state), -1);
            Check.same("overlap(0, " + state + ")", x.overlap(0, state), -1);
        }
        Check.same("state(0, -1)", x.state(0, -1), -1);
        Check.same("first(-1)", x.first(-1), -1);
        Check.same("first(3)", x.first(3), -1);
        int[][] bounds = {{1, 0, 0}, {0, 1, 0}, {-2, 0, 0}, {0, -2, 0}, {0, 0, 2}, {0, 0, -1}, {3, -1, 0},
            {-1, Integer.MIN_VALUE, 0}, {Integer.MAX_VALUE, 0, 1}, {0, -1, 2}};
        for (int[] call : bounds) {
            Check.same("bound(0, " + call[0] + ", " + call[1] + ", " + call[2] + ")",
                x.bound(0, call[0], call[1], call[2]), Integer.MIN_VALUE);
        }
    }

    private static void withoutState(ClockReach x, int state) {
        Check.same("state(" + state + ")", x.state(state, 0), -1);
        Check.same("state(" + state + ", 5)", x.state(state, 5), -1);
        Check.same("bound(" + state + ")", x.bound(state, -1, -1, 0), Integer.MIN_VALUE);
        Check.same("within(" + state + ", 0)", x.within(state, 0), -1);
        Check.same("has(" + state + ")", x.has(state, 0, 0, 0), -1);
        Check.same("overlap(" + state + ", 0)", x.overlap(state, 0), -1);
        Check.same("covered(" + state + ")", x.covered(state), -1);
        Check.same("points(" + state + ")", x.points(state), -1);
    }

    /** Way 1 goes by the greatest number 6, way 2 by LOWER 4 and UPPER 6, and by LOWER 4 and UPPER 2. */
    private static void forgotten() {
        ClockReach x = Check.of("clock x;place a until x<=6;place b;edge a b when x>=4;");
        for (int way = 0; way <= 2; way++) {
            x.graph(way, true);
            Check.same("at most 6, way " + way, x.bound(0, 0, -1, 0), way == 2 ? Integer.MAX_VALUE : 6);
            Check.same("at least 4, way " + way, x.bound(1, -1, 0, 0), -4);
        }
        x = Check.of("clock x;place a;place b;edge a b when x>=4;edge b b when x<2;");
        for (int way = 0; way <= 2; way++) {
            x.graph(way, true);
            Check.same("at least 4, way " + way, x.bound(1, -1, 0, 0), way == 2 ? -2 : -4);
            Check.same("at least 4, way " + way, x.bound(1, -1, 0, 1), way == 2 ? 0 : 1);
        }
        // two clocks apart: y is set back when x is above 3; y less x is below -3 and never told to more than that
        x = Check.of("clock x;clock y;place a;place b;edge a b when x>3 reset y;edge b b when y>=1 reset y;");
        Check.same("graph(0, false)", x.graph(0, false), 120);
        Check.same("it is FULL", x.about(6), 1);
        Check.same("graph(1, false)", x.graph(1, false), 2);
        Check.same("y less x", x.bound(1, 1, 0, 0), -3);
        Check.same("y less x", x.bound(1, 1, 0, 1), 0);
        Check.same("x less y", x.bound(1, 0, 1, 0), Integer.MAX_VALUE);
        Check.same("x at least", x.bound(1, -1, 0, 0), -3);
    }

    /** x has no LOWER number, but is held below by y, which keeps its BOUND. */
    private static void closedBehind() {
        ClockReach x = Check.of("clock x;clock y;place a until x<=2;edge a a when y>3;");
        x.graph(2, true);
        Check.same("x at most", x.bound(0, 0, -1, 0), 2);
        Check.same("y at most", x.bound(0, 1, -1, 0), 2);
        x = Check.of("clock x;clock y;place a until x<=2;edge a a when y>1;");
        x.graph(2, true);
        Check.same("x at most", x.bound(0, 0, -1, 0), Integer.MAX_VALUE);
        Check.same("y at most", x.bound(0, 1, -1, 0), Integer.MAX_VALUE);
        Check.same("x less y", x.bound(0, 0, 1, 0), 0);
    }

    /** Six PLACES that count to twenty each make just 120 STATES; one PLACE more is one too many. */
    private static void exactlyFull() {
        StringBuilder text = new StringBuilder("clock x;clock y;");
        for (char p = 'a'; p <= 'f'; p++) {
            text.append("place ").append(p).append(" until x<=1;");
        }
        for (char p = 'a'; p <= 'f'; p++) {
            text.append("edge " + p + " " + p + " when x=1 when y<=19 reset x;");
            if (p < 'f') {
                text.append("edge " + p + " " + (char) (p + 1) + " when x=1 reset x reset y;");
            }
        }
        ClockReach x = Check.of(text.toString());
        Check.same("120 STATES", x.graph(0, false), 120);
        Check.same("not FULL", x.about(6), 0);
        Check.same("120 STATES", x.graph(0, true), 120);
        Check.same("not FULL", x.about(6), 0);
        Check.same("the last one", x.state(119, 0), 5);
        Check.same("its RUN", x.state(119, 3), 24);
        Check.same("no 121st", x.state(120, 0), -1);
        x = Check.of(text + "place g;edge f g reset x reset y;");
        Check.same("120 STATES", x.graph(0, true), 120);
        Check.same("FULL", x.about(6), 1);
        Check.same("the last one", x.state(119, 0), 5);
        Check.same("its RUN is shorter", x.state(119, 3), 23);
        Check.same("no 121st", x.state(120, 0), -1);
        Check.same("no STATE came from the last one", x.state(119, 4), 0);
        Check.same("reached", x.reached(), 127);
        x = Check.of(text + "place g;edge f g when y=20;");
        Check.same("120 STATES", x.graph(0, true), 120);
        Check.same("FULL", x.about(6), 1);
        Check.same("g is not reached", x.reached(), 63);
        Check.same("g has none", x.first(6), -1);
        Check.same("but it would have come", x.taken(), (1 << 12) - 1);
        Check.same("from has 120 STATES at most, too", x.from(0, 0, 0, 0, 6), 0);
        Check.same("and begun later it needs fewer", x.from(1, 0, 0, 0, 6), 1);
    }

    private static void noFirst() {
        ClockReach x = Check.of("clock x;place a until x<0;edge a a;");
        Check.same("graph", x.graph(0, true), 0);
        Check.same("states", x.about(5), 0);
        Check.same("full", x.about(6), 0);
        Check.same("way", x.about(7), 0);
        Check.same("reached", x.reached(), 0);
        Check.same("taken", x.taken(), 0);
        Check.same("first", x.first(0), -1);
        Check.same("state", x.state(0, 0), -1);
        Check.same("from", x.from(0, 0, 0, 0, 0), 0);
        Check.same("avoids", x.avoids(0, 0), 0);
    }

    private static void noClocks() {
        ClockReach x = Check.of("place a;place b urgent;edge a b;");
        Check.same("graph", x.graph(2, true), 2);
        Check.same("bound", x.bound(1, -1, -1, 0), 0);
        Check.same("bound", x.bound(1, 0, -1, 0), Integer.MIN_VALUE);
        Check.same("has", x.has(0, -5, -5, -5), 1);
        Check.same("points", x.points(0), 1);
        Check.same("within", x.within(0, 1), 1);
        Check.same("overlap", x.overlap(0, 1), 1);
        Check.same("covered", x.covered(0), 0);
        Check.same("stuck(0)", x.state(0, 5), 0);
        Check.same("stuck(1)", x.state(1, 5), 1);
        Check.same("from", x.from(0, -1, 61, 99, 1), 1);
    }

    private static void stuck(String text, int state, int want) {
        ClockReach x = Check.of(text);
        x.graph(0, true);
        Check.same("state(" + state + ", 5) of " + text, x.state(state, 5), want);
    }

    private static void stuck() {
        stuck("place a;", 0, 1);
        stuck("clock x;place a;edge a a when x=7;", 0, 1);
        stuck("clock x;place a until x<=7;edge a a when x=7;", 0, 0);
        stuck("clock x;place a until x<7;edge a a when x=7;", 0, 1);
        stuck("clock x;place a until x<=5;edge a a when x<5;edge a a when x>5;", 0, 1);
        stuck("clock x;place a;edge a a when x<5;edge a a when x>5;", 0, 0);
        stuck("clock x;place a urgent;edge a a when x>=1;", 0, 1);
        stuck("clock x;place a;edge a a when x>=1;", 0, 0);
        // conditions of the second place have to hold, once clocks are set back
        stuck("clock x;place a;place b until x<=3;edge a b;", 0, 1);
        stuck("clock x;place a;place b until x<=3;edge a b reset x;", 0, 0);
        stuck("clock x;place a;place b until x<0;edge a b reset x;", 0, 1);
        stuck("clock x;clock y;place a until x<=2;place b;edge a b reset x;edge b b when y<=4 when x>=1;", 1, 1);
        stuck("clock x;clock y;place a until x<=2;place b until y<=4;edge a b reset x;edge b b when y<=4 when x>=1;", 1, 0);
    }

    /** Fourteen EDGES from one PLACE, each for one stretch of its own: the last one counts as well. */
    private static void stuckAmongMany() {
        StringBuilder text = new StringBuilder("clock x;place a;");
        for (int e = 0; e < 13; e++) {
            text.append("edge a a when x>=").append(e).append(" when x<").append(e + 1).append(";");
        }
        for (int twice = 0; twice < 2; twice++) {
            ClockReach x = Check.of(text + "edge a a when x>=13;");
            x.graph(0, true);
            Check.same("none is left", x.state(0, 5), 0);
            x.number(13, 0, 14);
            x.graph(0, true);
            Check.same("one waits for it", x.state(0, 5), 0);
            x = Check.of(text + "edge a a when x>13;".replace(">", twice == 0 ? "=" : "<="));
            x.graph(0, true);
            Check.same("above 13", x.state(0, 5), 1);
        }
    }

    /** By way 2, not LEAVING OUT, z counts too slowly to come to 20 in 120 STATES; LEAVING OUT it does. */
    private static void leavesOutBeside() {
        ClockReach x = Check.of("clock x;clock y;clock z;place p until x<=1;place a until x<=1;place b;place c;"
            + "edge p a when x=1 reset x reset z;edge p p when x=1 reset x;edge a a when x=1 reset x;"
            + "edge a b when z=20;edge c c when y<20;");
        x.graph(2, false);
        Check.same("not LEAVING OUT it is FULL", x.about(6), 1);
        Check.same("not LEAVING OUT b is not there", x.first(2), -1);
        x.graph(2, true);
        Check.same("LEAVING OUT it is not FULL", x.about(6), 0);
        Check.same("from", x.from(0, 0, 0, 0, 2), 1);
        Check.same("avoids", x.avoids(3, 2), 1);
        Check.same("lets", x.lets(3, 0, 2, 1), 20);
    }

    private static void coveredByMany() {
        ClockReach x = Check.of("clock x;place a;place b urgent;"
            + "edge a b when x<=2;edge a b when x>1;edge a b when x>=1 when x<=3;");
        Check.same("graph", x.graph(0, false), 4);
        Check.same("covered(0)", x.covered(0), 0);
        Check.same("covered(1)", x.covered(1), 0);
        Check.same("covered(2)", x.covered(2), 0);
        Check.same("covered(3)", x.covered(3), 1);
        x = Check.of("clock x;place a;place b urgent;edge a b when x<1;edge a b when x>1;edge a b when x<=2;");
        x.graph(0, false);
        Check.same("covered but for one value", x.covered(3), 0);
        x = Check.of("clock x;place a;place b urgent;place c urgent;edge a b when x<1;edge a c when x>=1;edge a b when x<=2;");
        x.graph(0, false);
        Check.same("of another PLACE", x.covered(3), 0);
        Check.same("by a greater one", x.covered(1), 1);
    }

    private static void whole() {
        ClockReach x = Check.of("clock x;clock y;clock z;place a until x<=2;place b urgent;place c;"
            + "edge a b when x>0 when x<2;edge a c reset x reset y;");
        x.graph(0, true);
        Check.same("all alike, 0 .. 2", x.points(0), 3);
        Check.same("just 1", x.points(1), 1);
        // x = y, z from 0 to 2 more: 0 .. 21 each
        Check.same("z ahead of x and y", x.points(2), 22 + 21 + 20);
        x = Check.of("clock x;place a urgent;place b;edge a b;");
        x.graph(0, true);
        Check.same("0 alone", x.points(0), 1);
        Check.same("0 .. 21", x.points(1), 22);
        x = Check.of("clock x;clock y;clock z;place a;place b;place c;place d;edge a b reset x;edge b c reset y;edge c d reset z;");
        x.graph(0, true);
        // z <= y <= x: of 22 values three, as often as one likes
        Check.same("in order", x.points(3), 22 * 23 * 24 / 6);
    }

    private static void urgentRings() {
        ClockReach x = Check.of("clock x;place a urgent;place b urgent;place c;place d urgent;place e urgent;"
            + "edge a b;edge b a when x<0;edge b c;edge c b;edge d d;edge a d;edge d e;");
        Check.same("rings", x.rings(), 0b01011);
        x.urgent(2, true);
        Check.same("rings", x.rings(), 0b01111);
        x.urgent(1, false);
        Check.same("rings", x.rings(), 0b01000);
        x = Check.of("place a urgent;place b urgent;place c urgent;place d urgent;place e urgent;place f urgent;"
            + "place g urgent;place h urgent;edge h g;edge g f;edge f e;edge e d;edge d c;edge c b;edge b a;edge a h;");
        Check.same("one ring of all", x.rings(), 255);
        x.urgent(4, false);
        Check.same("none", x.rings(), 0);
    }

    private static void begunElsewhere() {
        ClockReach x = Check.of("clock x;clock y;place a until x<=3;place b until y<5;place c;"
            + "edge a b when x>=2;edge b c when y>=4 when x<10;");
        int[][] calls = {{0, 0, 0, 0, 1, 1}, {0, 0, 0, 7777, 2, 1}, {0, 4, 0, 0, 1, 0}, {0, 4, 0, 0, 0, 0},
            {0, 3, 0, 0, 0, 1}, {1, 0, 4, 0, 2, 1}, {1, 0, 5, 0, 1, 0}, {1, 10, 4, 0, 2, 0}, {1, 9, 4, 0, 2, 1},
            {2, 60, 60, -1, 2, 1}, {2, 61, 0, 0, 2, -1}, {2, -1, 0, 0, 2, -1}, {2, 0, 61, 0, 2, -1},
            {2, 0, -1, 0, 2, -1}, {3, 0, 0, 0, 2, -1}, {-1, 0, 0, 0, 2, -1}, {2, 0, 0, 0, 3, -1},
            {2, 0, 0, 0, -1, -1}, {1, 0, 0, 0, 0, 0}};
        x.graph(0, true);
        x.begin();
        for (int[] c : calls) {
            Check.same("from(" + c[0] + ", " + c[1] + ", " + c[2] + ", " + c[3] + ", " + c[4] + ")",
                x.from(c[0], c[1], c[2], c[3], c[4]), c[5]);
        }
        Check.same("the GRAPH stays", x.about(5), 3);
        Check.same("its way stays", x.about(7), 0);
        Check.same("the PLAY stays", x.now(0), 0);
        x.urgent(0, true);
        Check.same("from without a GRAPH, in an URGENT one", x.from(0, 0, 0, 0, 1), 0);
        Check.same("from without a GRAPH, in an URGENT one", x.from(0, 2, 0, 0, 1), 1);
        x = Check.of("clock x;clock y;clock z;place a;place b;edge a b when z<=20;");
        Check.same("a third clock", x.from(0, 60, 60, 60, 1), 0);
        Check.same("a third clock", x.from(0, 60, 60, 20, 1), 1);
        Check.same("a third clock", x.from(0, 60, 60, 61, 1), -1);
    }

    private static void goneRound() {
        ClockReach x = Check.of("place s;place l;place r;place t;edge s l;edge s r;edge l t;edge r t;");
        int[][] calls = {{1, 3, 1}, {2, 3, 1}, {0, 3, 0}, {3, 3, 0}, {3, 1, 1}, {1, 1, 0}, {1, 2, 1}, {1, 0, 1},
            {0, 0, 0}, {4, 0, -1}, {0, 4, -1}, {-1, 0, -1}, {0, -1, -1}};
        x.graph(1, false);
        for (int[] c : calls) {
            Check.same("avoids(" + c[0] + ", " + c[1] + ")", x.avoids(c[0], c[1]), c[2]);
        }
        Check.same("the GRAPH stays", x.about(7), 1);
        x = Check.of("clock x;place s until x<=3;place l;place r;place t;"
            + "edge s l;edge s r when x>3;edge l t;edge r t;edge l r;start s;");
        Check.same("only by l", x.avoids(1, 3), 0);
        Check.same("not by r", x.avoids(2, 3), 1);
        Check.same("r by l", x.avoids(3, 2), 1);
    }
}
