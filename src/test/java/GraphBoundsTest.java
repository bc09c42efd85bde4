import java.util.List;

/** Promises 14 to 27, each sentence that names a boundary case by itself. */
public final class GraphBoundsTest {
    private static final int FREE = Integer.MAX_VALUE;
    private static final int[] NO_STATE = {-1, -2, 120, 121, Integer.MIN_VALUE, Integer.MAX_VALUE};

    public static void main(String[] args) {
        ways();
        noPlace();
        startThatCanNotBe();
        startThatCanNotStay();
        noClock();
        justFull();
        fullBeside();
        fullGoesOn();
        fullLooksAtTheRest();
        leavingOut();
        sameZone();
        urgentPlaces();
        delayedToConditions();
        upperForgotten();
        upperForgottenByLower();
        lowerForgotten();
        lowerForgottenByUpper();
        notForgotten();
        noSuchState();
        noSuchClock();
        otherWhats();
        boundsThatAreNot();
        timesAtBounds();
        withinAndOverlap();
        coveredOrNot();
        pointsTo21();
        smallestRings();
        unitsTo60();
        beginsIfConditionsHold();
        avoided();
        stuckByOneValue();
        Check.finish("GraphBoundsTest");
    }

    /** NONE, doing nothing, if there is no such way. */
    private static void ways() {
        String text = "clock x;place a until x<=3;place b;edge a b when x>1;";
        for (int way : new int[] {-1, 3, 4, Integer.MIN_VALUE, Integer.MAX_VALUE}) {
            ClockReach x = Check.of(text);
            Calls.due(x, -1, "graph", way, 1);
            Calls.due(x, -1, "about", 5);
            Calls.due(x, -1, "about", 7);
            x.graph(1, false);
            x.begin();
            List<Long> before = Calls.seen(x);
            Calls.due(x, -1, "graph", way, 1);
            Calls.due(x, -1, "graph", way, 0);
            Check.same("graph(" + way + ") does nothing", Calls.seen(x).equals(before), true);
        }
        ClockReach x = Check.of(text);
        x.begin();
        for (int way = 0; way <= 2; way++) {
            for (int leaves = 0; leaves <= 1; leaves++) {
                Calls.due(x, 2, "graph", way, leaves);
                Calls.due(x, 2, "about", 5);
                Calls.due(x, 0, "about", 6);
                Calls.due(x, way, "about", 7);
            }
        }
        Check.same("the PLAY stays", x.now(0), 0);
    }

    /** NONE, if there is no PLACE. */
    private static void noPlace() {
        ClockReach x = new ClockReach();
        for (int way = -1; way <= 3; way++) {
            Calls.due(x, -1, "graph", way, 1);
            Calls.due(x, -1, "graph", way, 0);
        }
        Calls.due(x, -1, "about", 5);
        Calls.due(x, -1, "about", 6);
        Calls.due(x, -1, "about", 7);
    }

    /** The first one: if its CONDITIONS hold. Without it there is a GRAPH of no STATES. */
    private static void startThatCanNotBe() {
        for (int way = 0; way <= 2; way++) {
            ClockReach x = Check.of("clock x;place a;place b until x<0;start b;edge b a;edge a b;");
            Calls.due(x, 0, "graph", way, way % 2);
            Calls.due(x, 0, "about", 5);
            Calls.due(x, 0, "about", 6);
            Calls.due(x, way, "about", 7);
            Calls.due(x, 0, "reached");
            Calls.due(x, 0, "taken");
            Calls.due(x, -1, "first", 0);
            Calls.due(x, -1, "first", 1);
            withoutState(x, 0);
            Calls.due(x, 0, "replays", 0);
            Calls.due(x, -1, "tells", -1, -1, -1, -1, -1, 0);
            Calls.due(x, -1, "soonest", 1, 0);
            Calls.due(x, -1, "begin");
            Calls.due(x, 0, "avoids", 0, 1);
            Calls.due(x, 0, "from", 1, 0, 0, 0, 0);
            Calls.due(x, 1, "from", 0, 0, 0, 0, 0);
            Calls.due(x, 1, "lets", 101, 0, 1, 0);
        }
    }

    /** At most 0 and below 1: it begins, and stays not at all, or not quite a unit. */
    private static void startThatCanNotStay() {
        ClockReach x = Check.of("clock x;place a until x<=0;edge a a when x>0;");
        Calls.due(x, 1, "graph", 0, 1);
        Calls.due(x, 0, "bound", 0, 0, -1, 0);
        Calls.due(x, 1, "bound", 0, 0, -1, 1);
        Calls.due(x, 0, "taken");
        x = Check.of("clock x;place a until x<1;edge a a when x>0;");
        Calls.due(x, 2, "graph", 0, 0);
        Calls.due(x, 1, "bound", 0, 0, -1, 0);
        Calls.due(x, 0, "bound", 0, 0, -1, 1);
        Calls.due(x, 1, "taken");
    }

    private static void noClock() {
        for (int way = 0; way <= 2; way++) {
            ClockReach x = Check.of("place a;place b urgent;place c;edge a b;edge b a;edge b b;");
            Calls.due(x, 2, "graph", way, 0);
            Calls.due(x, 3, "reached");
            Calls.due(x, 7, "taken");
            Calls.due(x, 0, "bound", 1, -1, -1, 0);
            Calls.due(x, 1, "bound", 1, -1, -1, 1);
            Calls.due(x, Integer.MIN_VALUE, "bound", 1, 0, -1, 0);
            Calls.due(x, Integer.MIN_VALUE, "bound", 1, -1, 0, 0);
            Calls.due(x, 1, "within", 0, 1);
            Calls.due(x, 1, "overlap", 0, 1);
            Calls.due(x, 0, "covered", 0);
            Calls.due(x, 1, "points", 0);
            Calls.due(x, 1, "has", 0, -1, Integer.MIN_VALUE, Integer.MAX_VALUE);
            Calls.due(x, 0, "state", 0, 5);
            Calls.due(x, 1, "from", 0, -1, 61, Integer.MIN_VALUE, 1);
            Calls.due(x, 0, "from", 0, 0, 0, 0, 2);
            Calls.due(x, 0, "when", 1, 0);
            Calls.due(x, -1, "then", 1, 0, 0);
            Calls.due(x, 256000, "latest", 1, 0, 1000);
            Calls.due(x, FREE, "spans", 1, 2);
            Calls.due(x, 0, "soonest", 1, 0);
            Calls.due(x, -1, "soonest", 2, 0);
            Calls.due(x, -1, "limit", 0, 0);
        }
    }

    /** Six PLACES that count to twenty each; the last one counts to as many as the test likes. */
    private static ClockReach counting(int last) {
        StringBuilder text = new StringBuilder("clock x;clock y;");
        for (char p = 'a'; p <= 'f'; p++) {
            text.append("place ").append(p).append(" until x<=1;");
        }
        for (char p = 'a'; p <= 'f'; p++) {
            text.append("edge " + p + " " + p + " when x=1 when y<" + (p == 'f' ? last : 20) + " reset x;");
            if (p < 'f') {
                text.append("edge " + p + " " + (char) (p + 1) + " when x=1 reset x reset y;");
            }
        }
        return Check.of(text + "place g;place h;edge f g when y=20 reset x reset y;edge g f reset x;");
    }

    /** STATES, 120 at most; FULL is a GRAPH for which a 121st would have come. */
    private static void justFull() {
        for (int leaves = 0; leaves <= 1; leaves++) {
            for (int last = 15; last <= 19; last++) {
                ClockReach x = counting(last);
                Calls.due(x, 100 + last, "graph", 0, leaves);
                Calls.due(x, 0, "about", 6);
                Check.same("the last one is there", x.state(99 + last, 0) >= 4, true);
                Calls.due(x, -1, "state", 100 + last, 0);
                Calls.due(x, 63, "reached");
                Calls.due(x, (1 << 11) - 1, "taken");
            }
        }
        // one more is come to at 20 of y: g, the 121st, is not there, nor what would have come of it
        ClockReach x = counting(20);
        for (int leaves = 0; leaves <= 1; leaves++) {
            Calls.due(x, 120, "graph", 0, leaves);
            Calls.due(x, 120, "about", 5);
            Calls.due(x, 1, "about", 6);
            Calls.due(x, 5, "state", 119, 0);
            Calls.due(x, 0, "state", 119, 4);
            withoutState(x, 120);
            Calls.due(x, 63, "reached");
            Calls.due(x, -1, "first", 6);
            Calls.due(x, (1 << 12) - 1, "taken");
        }
    }

    /** GRAPHS that are asked beside the shown one have 120 STATES at most, too: a PLACE of a 121st is not there. */
    private static void fullBeside() {
        ClockReach x = counting(20);
        Calls.due(x, 0, "from", 0, 0, 0, 0, 6);
        Calls.due(x, 1, "from", 1, 0, 0, 0, 6);
        Calls.due(x, 0, "avoids", 7, 6);
        Calls.due(x, -2, "lets", 10, 1, 6, 0);
        Calls.due(x, -2, "lets", 10, 1, 6, 1);
        // one STATE less ahead of it, and it is the 120th
        x.number(0, 1, 19);
        Calls.due(x, 1, "from", 0, 0, 0, 0, 6);
        Calls.due(x, 1, "avoids", 7, 6);
        Calls.due(x, 20, "lets", 10, 1, 6, 0);
        Calls.due(x, 20, "lets", 10, 1, 6, 1);
        Calls.due(x, 19, "lets", 0, 1, 6, 1);
        Calls.due(x, 0, "lets", 0, 1, 6, 0);
    }

    /** All else goes on: what is left out behind the 121st counts as taken, and nothing comes any more. */
    private static void fullGoesOn() {
        // a counts without end; an EDGE by which nothing new comes is taken all the same
        ClockReach x = Check.of("clock x;clock y;clock z;place a until x<=1;place b;place c;"
            + "edge a a when x=1 reset x;edge a a when x=1 when z<0 reset x;edge b c;edge a a;");
        Calls.due(x, 120, "graph", 0, 1);
        Calls.due(x, 1, "about", 6);
        Calls.due(x, 1, "reached");
        Calls.due(x, 9, "taken");
        Calls.due(x, 1, "state", 118, 4);
        Calls.due(x, 0, "state", 119, 4);
        Calls.due(x, 118, "state", 119, 1);
        Calls.due(x, 119, "state", 119, 3);
        x = Check.of("clock x;clock y;place a until x<=1;place b;edge a a when x=1 reset x;edge a b when x=1 when y>20;");
        x.graph(0, false);
        int there = x.about(5);
        Calls.due(x, 120, "about", 5);
        Calls.due(x, 3, "taken");
        int came = 0;
        for (int s = 0; s < there; s++) {
            came += x.state(s, 4);
        }
        Check.same("each STATE but the first came from one", came, there - 1);
    }

    /** Fifteen rows of one STATE, two .. fifteen: the 121st comes of STATE 105, STATE 119 is looked at all the same. */
    private static void fullLooksAtTheRest() {
        String text = "clock x;clock y;clock z;place a until x<=1;place b;edge a a when x=1 reset x;"
            + "edge a a when x=1 reset x reset z;edge a b when x=1 when y=15 when z=14;";
        for (int leaves = 0; leaves <= 1; leaves++) {
            ClockReach x = Check.of(text);
            Calls.due(x, 120, "graph", 0, leaves);
            Calls.due(x, 1, "about", 6);
            Calls.due(x, 1, "reached");
            Calls.due(x, 7, "taken");
            Calls.due(x, 0, "state", 105, 4);
            Calls.due(x, 14, "state", 119, 3);
            // one row earlier b is there, and one of the last row is the 121st
            x.number(2, 1, 14);
            Calls.due(x, 120, "graph", 0, leaves);
            Calls.due(x, 1, "about", 6);
            Calls.due(x, 3, "reached");
            Calls.due(x, 107, "first", 1);
            Calls.due(x, 3, "state", 91, 4);
            // without b the 121st is of the next row
            x.number(2, 1, 0);
            Calls.due(x, 120, "graph", 0, leaves);
            Calls.due(x, 1, "about", 6);
            Calls.due(x, 3, "taken");
        }
    }

    /** Unless (LEAVING OUT) an earlier one has all of it: an earlier one that a later one has stays. */
    private static void leavingOut() {
        String later = "clock x;place a;place b;edge a b when x>=3;edge a b when x>=5;";
        String earlier = "clock x;place a;place b;edge a b when x>=5;edge a b when x>=3;";
        String[] texts = {later, earlier};
        int[] left = {2, 3};
        for (int i = 0; i < 2; i++) {
            ClockReach x = Check.of(texts[i]);
            Calls.due(x, left[i], "graph", 0, 1);
            Calls.due(x, 3, "taken");
            Calls.due(x, left[i] - 1, "state", 0, 4);
            Calls.due(x, 3, "graph", 0, 0);
            Calls.due(x, 3, "taken");
            Calls.due(x, 2, "state", 0, 4);
        }
        // neither has all of the other
        ClockReach x = Check.of("clock x;place a;place b urgent;edge a b when x<=3;edge a b when x>=3;");
        Calls.due(x, 3, "graph", 0, 1);
        // just more than what was there: below 3 and at most 3
        x = Check.of("clock x;place a;place b urgent;edge a b when x<3;edge a b when x<=3;");
        Calls.due(x, 3, "graph", 0, 1);
        x = Check.of("clock x;place a;place b urgent;edge a b when x<=3;edge a b when x<3;");
        Calls.due(x, 2, "graph", 0, 1);
        Calls.due(x, 3, "graph", 0, 0);
    }

    /** Unless an earlier one of that PLACE has just that ZONE: of another PLACE it is no matter. */
    private static void sameZone() {
        ClockReach x = Check.of("clock x;place a;place b;edge a a;edge a b;edge a b;edge b a;");
        for (int leaves = 0; leaves <= 1; leaves++) {
            Calls.due(x, 2, "graph", 0, leaves);
            Calls.due(x, 15, "taken");
            Calls.due(x, 1, "within", 0, 1);
            Calls.due(x, 1, "within", 1, 0);
            Calls.due(x, 1, "state", 0, 4);
            Calls.due(x, 1, "state", 1, 2);
        }
    }

    /** If its PLACE is not URGENT, its ZONE is DELAYED. */
    private static void urgentPlaces() {
        ClockReach x = Check.of("clock x;place a urgent;edge a a when x>0;");
        Calls.due(x, 1, "graph", 0, 1);
        Calls.due(x, 0, "bound", 0, 0, -1, 0);
        Calls.due(x, 1, "bound", 0, 0, -1, 1);
        Calls.due(x, 0, "taken");
        x.urgent(0, false);
        Calls.due(x, 1, "graph", 0, 1);
        Calls.due(x, FREE, "bound", 0, 0, -1, 0);
        Calls.due(x, 1, "taken");
        // what comes into an URGENT PLACE stays as it came, but for CONDITIONS
        x = Check.of("clock x;clock y;place a;place b urgent until x<=2;place c;edge a b when x<=3 reset y;edge b c;");
        Calls.due(x, 3, "graph", 0, 1);
        Calls.due(x, 2, "bound", 1, 0, -1, 0);
        Calls.due(x, 1, "bound", 1, 0, -1, 1);
        Calls.due(x, 0, "bound", 1, 1, -1, 0);
        Calls.due(x, FREE, "bound", 2, 1, -1, 0);
        Calls.due(x, 2, "bound", 2, 0, 1, 0);
    }

    /** DELAYED, as long as CONDITIONS hold: the tightest of them. */
    private static void delayedToConditions() {
        ClockReach x = Check.of("clock x;place a until x<=5 until x<5 until x<9;edge a a reset x;");
        Calls.due(x, 1, "graph", 0, 0);
        Calls.due(x, 5, "bound", 0, 0, -1, 0);
        Calls.due(x, 0, "bound", 0, 0, -1, 1);
        // of two CLOCKS the one that comes first to its number
        x = Check.of("clock x;clock y;place a until x<=2;place b until x<=6 until y<5;edge a b when x>=2 reset y;");
        x.graph(0, true);
        Calls.due(x, 6, "bound", 1, 0, -1, 0);
        Calls.due(x, 4, "bound", 1, 1, -1, 0);
        Calls.due(x, 1, "bound", 1, 1, -1, 1);
    }

    /** Bounds of x less y are C at most, where x has the GREATEST (and LOWER) 6. */
    private static void upperForgotten() {
        String[] told = {"<6", "<=6", "<7", "<=7", "<=20"};
        int[] number = {6, 6, 7, 7, 20};
        int[] just = {0, 1, 0, 1, 1};
        for (int i = 0; i < told.length; i++) {
            ClockReach x = Check.of("clock x;clock y;place a until y" + told[i] + ";place b;place c;edge a b reset y;"
                + "edge c c when x>=6;");
            for (int way = 0; way <= 2; way++) {
                x.graph(way, true);
                boolean kept = way == 0 || i < 2;
                Calls.due(x, kept ? number[i] : FREE, "bound", 1, 0, 1, 0);
                Calls.due(x, kept ? just[i] : FREE, "bound", 1, 0, 1, 1);
                Calls.due(x, FREE, "bound", 1, 0, -1, 0);
            }
        }
    }

    /** The same with LOWER 0 and GREATEST 6: way 2 keeps "at most 0" alone. */
    private static void upperForgottenByLower() {
        String[] told = {"<=0", "<1", "<=1", "<=6", "<7"};
        int[] number = {0, 1, 1, 6, 7};
        int[] just = {1, 0, 1, 1, 0};
        for (int i = 0; i < told.length; i++) {
            ClockReach x = Check.of("clock x;clock y;place a until y" + told[i] + ";place b;place c;edge a b reset y;"
                + "edge c c when x<=6;");
            for (int way = 0; way <= 2; way++) {
                x.graph(way, true);
                boolean kept = way == 0 || way == 1 && i < 4 || way == 2 && i < 1;
                Calls.due(x, kept ? number[i] : FREE, "bound", 1, 0, 1, 0);
                Calls.due(x, kept ? just[i] : FREE, "bound", 1, 0, 1, 1);
            }
        }
    }

    /** x is C at least, where it has the GREATEST (and UPPER) 6: tighter than "below 0 less 6" becomes just that. */
    private static void lowerForgotten() {
        String[] told = {">=5", ">5", ">=6", ">6", ">=7", ">=20"};
        int[] number = {5, 5, 6, 6, 7, 20};
        int[] just = {1, 0, 1, 0, 1, 1};
        for (int i = 0; i < told.length; i++) {
            ClockReach x = Check.of("clock x;clock y;place a;place b;place c;edge a b when y" + told[i] + " reset y;"
                + "edge c c when x<=6;");
            for (int way = 0; way <= 2; way++) {
                x.graph(way, true);
                boolean kept = way == 0 || i < 4;
                for (int y = -1; y <= 1; y += 2) {
                    Calls.due(x, kept ? -number[i] : -6, "bound", 1, y, 0, 0);
                    Calls.due(x, kept ? just[i] : 0, "bound", 1, y, 0, 1);
                }
            }
        }
    }

    /** The same with UPPER 0 and GREATEST 6: way 2 knows no more than "above 0". */
    private static void lowerForgottenByUpper() {
        String[] told = {">=0", ">0", ">=1", ">=6", ">=7"};
        int[] number = {0, 0, 1, 6, 7};
        int[] just = {1, 0, 1, 1, 1};
        for (int i = 0; i < told.length; i++) {
            ClockReach x = Check.of("clock x;clock y;place a;place b;place c;edge a b when y" + told[i] + " reset y;"
                + "edge c c when x>=6;");
            for (int way = 0; way <= 2; way++) {
                x.graph(way, true);
                boolean kept = way == 0 || way == 1 && i < 4 || way == 2 && i < 2;
                int rest = way == 1 ? -6 : 0;
                Calls.due(x, kept ? -number[i] : rest, "bound", 1, -1, 0, 0);
                Calls.due(x, kept ? just[i] : 0, "bound", 1, -1, 0, 1);
            }
        }
    }

    /** Those of one with itself, and of the ZERO, stay "at most 0", without any CONDITION too. */
    private static void notForgotten() {
        ClockReach x = Check.of("clock x;clock y;place a;place b;edge a b reset x;");
        for (int way = 0; way <= 2; way++) {
            x.graph(way, true);
            for (int c = -1; c <= 1; c++) {
                Calls.due(x, 0, "bound", 1, c, c, 0);
                Calls.due(x, 1, "bound", 1, c, c, 1);
            }
            // the first ZONE: both alike; 0 is not above "at most 0"
            Calls.due(x, 0, "bound", 0, 0, 1, 0);
            Calls.due(x, 0, "bound", 0, 1, 0, 0);
            Calls.due(x, 0, "bound", 1, -1, 0, 0);
            Calls.due(x, 1, "bound", 1, -1, 0, 1);
        }
    }

    private static void withoutState(ClockReach x, int state) {
        for (int what = 0; what <= 5; what++) {
            Calls.due(x, -1, "state", state, what);
        }
        Calls.due(x, Integer.MIN_VALUE, "bound", state, -1, -1, 0);
        for (String name : new String[] {"within", "overlap"}) {
            Calls.due(x, -1, name, state, 0);
            Calls.due(x, -1, name, 0, state);
            Calls.due(x, -1, name, state, state);
        }
        Calls.due(x, -1, "has", state, 0, 0, 0);
        Calls.due(x, -1, "covered", state);
        Calls.due(x, -1, "points", state);
        Calls.due(x, -1, "run", state, 0);
        Calls.due(x, -1, "when", state, 0);
        Calls.due(x, -1, "then", state, 0, 0);
        Calls.due(x, -1, "spans", state, 0);
        Calls.due(x, -1, "latest", state, 0, 1000);
    }

    /** NONE, too, without a GRAPH, or if there is no such STATE. */
    private static void noSuchState() {
        String text = "clock x;place a;place b;edge a b when x>2;";
        ClockReach bare = Check.of(text);
        for (int state = -1; state <= 2; state++) {
            withoutState(bare, state);
        }
        Calls.due(bare, -1, "first", 0);
        Calls.due(bare, -1, "reached");
        Calls.due(bare, -1, "taken");
        for (int state : NO_STATE) {
            ClockReach x = Check.of(text);
            x.graph(0, true);
            withoutState(x, state);
            withoutState(x, 2);
            Calls.due(x, 0, "replays", state);
        }
        // a later GRAPH that is smaller leaves nothing of the one ahead
        ClockReach x = Check.of("clock x;clock y;place a until x<=1;edge a a when x=1 reset x;");
        Calls.due(x, 120, "graph", 0, 1);
        Calls.due(x, 2, "graph", 2, 1);
        withoutState(x, 2);
        withoutState(x, 119);
    }

    /** Integer.MIN_VALUE, NONE or the exception, if there is no such CLOCK. */
    private static void noSuchClock() {
        for (int clocks = 0; clocks <= 3; clocks++) {
            StringBuilder text = new StringBuilder();
            for (int c = 0; c < clocks; c++) {
                text.append("clock ").append((char) ('x' + c)).append(";");
            }
            ClockReach x = Check.of(text + "place a;place b;edge a b;");
            x.graph(0, true);
            x.begin();
            for (int c : new int[] {-2, -1, 0, 1, 2, 3, 4, Integer.MIN_VALUE, Integer.MAX_VALUE}) {
                boolean there = c >= 0 && c < clocks;
                boolean zero = c == -1;
                Check.same("bound x " + c, x.bound(1, c, -1, 0) == Integer.MIN_VALUE, !there && !zero);
                Check.same("bound y " + c, x.bound(1, -1, c, 0) == Integer.MIN_VALUE, !there && !zero);
                Check.same("bound " + c, x.bound(1, c, c, 1) == Integer.MIN_VALUE, !there && !zero);
                Calls.due(x, there ? 0 : -1, "then", 1, 0, c);
                Calls.due(x, there ? 0 : -1, "limit", c, 0);
                Calls.due(x, there ? 0 : Calls.THROWS, "clock", c);
            }
        }
    }

    /** NONE for another what; of a BOUND Integer.MIN_VALUE. */
    private static void otherWhats() {
        ClockReach x = Check.of("clock x;place a;edge a a;");
        x.graph(0, true);
        for (int what : new int[] {-1, 6, 7, Integer.MIN_VALUE, Integer.MAX_VALUE}) {
            Calls.due(x, -1, "state", 0, what);
            Calls.due(x, Integer.MIN_VALUE, "bound", 0, 0, -1, what);
        }
        Calls.due(x, Integer.MIN_VALUE, "bound", 0, 0, -1, 2);
        // of the first STATE: from which and by which are NONE, EDGES of its RUN 0
        int[] first = {0, -1, -1, 0, 0, 0};
        for (int what = 0; what < first.length; what++) {
            Calls.due(x, first[what], "state", 0, what);
        }
    }

    /** Integer.MAX_VALUE if there is no BOUND. */
    private static void boundsThatAreNot() {
        ClockReach x = Check.of("clock x;clock y;place a;place b;edge a b reset y;");
        x.graph(0, true);
        for (int what = 0; what <= 1; what++) {
            Calls.due(x, FREE, "bound", 0, 0, -1, what);
            Calls.due(x, FREE, "bound", 1, 0, 1, what);
            Calls.due(x, what, "bound", 1, 1, 0, what);
            Calls.due(x, what, "bound", 1, -1, 1, what);
        }
    }

    /** By TIMES "below" is 1 less at most, "above" 1 more at least; 256 to a unit. */
    private static void timesAtBounds() {
        String[] told = {"<3", "<=3", "=3", ">=3", ">3"};
        int[][] has = {{1, 0, 0}, {1, 1, 0}, {0, 1, 0}, {0, 1, 1}, {0, 0, 1}};
        for (int i = 0; i < told.length; i++) {
            ClockReach x = Check.of("clock x;clock y;place a;place b urgent;place c urgent;edge a b when x" + told[i]
                + ";edge a c when x" + told[i] + " reset y;");
            x.graph(0, true);
            for (int d = -1; d <= 1; d++) {
                Calls.due(x, has[i][d + 1], "has", 1, 768 + d, 768 + d, Integer.MIN_VALUE);
                Calls.due(x, has[i][d + 1], "has", 2, 768 + d, 0, 0);
                Calls.due(x, 0, "has", 2, 768 + d, 1, 0);
                Calls.due(x, 0, "has", 1, 768 + d, 767 + d, 0);
            }
        }
    }

    private static void withinAndOverlap() {
        // [0, 3) [0, 3] [3, 3] [3, ..) (3, ..)
        ClockReach x = Check.of("clock x;place a;place b urgent;place c urgent;place d urgent;place e urgent;place f urgent;"
            + "edge a b when x<3;edge a c when x<=3;edge a d when x=3;edge a e when x>=3;edge a f when x>3;");
        x.graph(0, true);
        int[][] within = {{1, 0, 0, 0, 0}, {1, 1, 1, 0, 0}, {0, 0, 1, 0, 0}, {0, 0, 1, 1, 1}, {0, 0, 0, 0, 1}};
        int[][] overlap = {{1, 1, 0, 0, 0}, {1, 1, 1, 1, 0}, {0, 1, 1, 1, 0}, {0, 1, 1, 1, 1}, {0, 0, 0, 1, 1}};
        for (int s = 0; s < 5; s++) {
            for (int o = 0; o < 5; o++) {
                Calls.due(x, within[s][o], "within", s + 1, o + 1);
                Calls.due(x, overlap[s][o], "overlap", s + 1, o + 1);
            }
            Calls.due(x, 1, "within", 0, s + 1);
            Calls.due(x, 0, "within", s + 1, 0);
            Calls.due(x, 1, "overlap", 0, s + 1);
        }
        Calls.due(x, 1, "within", 0, 0);
        Calls.due(x, 1, "overlap", 0, 0);
    }

    /** Whether each value is in that of some other STATE of its PLACE: all but one value are not each. */
    private static void coveredOrNot() {
        String[] gaps = {"<3", "<=3", "<3", "<=3"};
        String[] rest = {">3", ">3", ">=3", ">=3"};
        int[] covered = {0, 1, 1, 1};
        for (int i = 0; i < gaps.length; i++) {
            ClockReach x = Check.of("clock x;place a;place b urgent;edge a b when x" + gaps[i] + ";edge a b when x" + rest[i]
                + ";edge a b when x<=9;");
            Calls.due(x, 4, "graph", 0, 0);
            Calls.due(x, covered[i], "covered", 3);
            Calls.due(x, 0, "covered", 0);
            Calls.due(x, 1, "covered", 1);
            Calls.due(x, 0, "covered", 2);
        }
    }

    /** Whole values 0 .. 21 of each CLOCK: 21 counts, 22 does not. */
    private static void pointsTo21() {
        for (int more = 0; more <= 3; more++) {
            ClockReach x = Check.of("clock x;clock y;place a until x<=20;place b until x<=" + more + ";place c urgent;"
                + "place d;edge a b when x=20 reset x;edge b c when x=" + more + ";edge c d;");
            x.graph(0, true);
            Calls.due(x, more <= 1 ? 1 : 0, "points", 2);
            Calls.due(x, more == 0 ? 2 : more == 1 ? 1 : 0, "points", 3);
            Calls.due(x, 21, "points", 0);
        }
        // between two whole values there is none
        ClockReach x = Check.of("clock x;place a;place b urgent;place c urgent;edge a b when x>3 when x<4;edge a c when x>3 when x<5;");
        x.graph(0, true);
        Calls.due(x, 22, "points", 0);
        Calls.due(x, 0, "points", 1);
        Calls.due(x, 1, "points", 2);
        x = Check.of("clock x;clock y;clock z;place a;place b;place c;place d;edge a b reset x;edge b c reset y;edge c d reset x;");
        x.graph(0, true);
        Calls.due(x, 22, "points", 0);
        // x at most y, y at most z
        Calls.due(x, 22 * 23 * 24 / 6, "points", 3);
    }

    /** Rings all of whose PLACES are URGENT: one PLACE, two, and one that is not URGENT among them. */
    private static void smallestRings() {
        Calls.due(Check.of("place a urgent;edge a a;"), 1, "rings");
        Calls.due(Check.of("place a;edge a a;"), 0, "rings");
        Calls.due(Check.of("place a urgent;"), 0, "rings");
        Calls.due(Check.of("place a urgent;place b urgent;edge a b;"), 0, "rings");
        Calls.due(Check.of("place a urgent;place b urgent;edge a b;edge b a;"), 3, "rings");
        Calls.due(Check.of("place a urgent;place b;edge a b;edge b a;"), 0, "rings");
        // a PLACE that leads to a ring, or away from one, is not on it
        Calls.due(Check.of("place a urgent;place b urgent;place c urgent;edge a b;edge b b;edge b c;"), 2, "rings");
        // two rings that share a PLACE
        Calls.due(Check.of("place a urgent;place b urgent;place c urgent;edge a b;edge b a;edge b c;edge c b;"), 7, "rings");
        // whatever CONDITIONS are
        Calls.due(Check.of("clock x;place a urgent until x<0;edge a a when x<0 when x>20;"), 1, "rings");
        ClockReach x = Check.of("place a urgent;edge a a;");
        x.graph(0, true);
        Calls.due(x, 1, "rings");
        x.urgent(0, false);
        Calls.due(x, 0, "rings");
        x.undo();
        Calls.due(x, 1, "rings");
    }

    /** CLOCKS at so many units (0 .. 60; of as many as there are); NONE if one can't be. */
    private static void unitsTo60() {
        int[] units = {-1, 0, 1, 59, 60, 61, Integer.MIN_VALUE, Integer.MAX_VALUE};
        for (int clocks = 0; clocks <= 3; clocks++) {
            StringBuilder text = new StringBuilder();
            for (int c = 0; c < clocks; c++) {
                text.append("clock ").append((char) ('x' + c)).append(";");
            }
            ClockReach x = Check.of(text + "place a;place b;place c;edge a b;");
            for (int at = 0; at < 3; at++) {
                for (int unit : units) {
                    int[] call = {0, 7, 7, 7, 1};
                    call[at + 1] = unit;
                    boolean can = at >= clocks || unit >= 0 && unit <= 60;
                    Calls.due(x, can ? 1 : -1, "from", call);
                    call[4] = 2;
                    Calls.due(x, can ? 0 : -1, "from", call);
                }
            }
        }
    }

    /** The first STATE has these values, if CONDITIONS of that PLACE hold; DELAYED as any. */
    private static void beginsIfConditionsHold() {
        ClockReach x = Check.of("clock x;place a until x<5;place b until x<=5;place c urgent;place d;"
            + "edge a d when x>=4;edge b d when x>5;edge c d when x>=7;");
        int[][] calls = {{0, 4, 0, 1}, {0, 5, 0, 0}, {0, 4, 3, 1}, {0, 5, 3, 0}, {1, 5, 1, 1}, {1, 6, 1, 0}, {1, 5, 3, 0},
            {2, 6, 3, 0}, {2, 7, 3, 1}, {2, 60, 3, 1}, {3, 60, 3, 1}, {3, 0, 0, 0}};
        for (int[] c : calls) {
            Calls.due(x, c[3], "from", c[0], c[1], 0, 0, c[2]);
        }
        for (int place : new int[] {-1, 4, 8, Integer.MIN_VALUE, Integer.MAX_VALUE}) {
            Calls.due(x, -1, "from", place, 0, 0, 0, 0);
            Calls.due(x, -1, "from", 0, 0, 0, 0, place);
            Calls.due(x, -1, "avoids", place, 0);
            Calls.due(x, -1, "avoids", 0, place);
            Calls.due(x, -1, "first", place);
        }
    }

    /** Without EDGES to (and no begin at) a PLACE that is avoided; 0 if both are one. */
    private static void avoided() {
        ClockReach x = Check.of("place a;place b;place c;place d;start b;edge b c;edge c d;edge b a;edge a d;");
        int[][] avoids = {{0, 1, 1, 1}, {0, 0, 0, 0}, {1, 1, 0, 1}, {1, 1, 1, 0}};
        for (int place = 0; place < 4; place++) {
            for (int goal = 0; goal < 4; goal++) {
                Calls.due(x, avoids[place][goal], "avoids", place, goal);
            }
        }
        x = Check.of("place a;place b;place c;edge a b;edge b c;");
        Calls.due(x, 0, "avoids", 1, 2);
        Calls.due(x, 1, "avoids", 2, 1);
        Calls.due(x, 1, "avoids", 2, 0);
        Calls.due(x, 0, "avoids", 0, 2);
    }

    /** Values by which, however long one waits (as may be), no EDGE can be taken: one value is enough. */
    private static void stuckByOneValue() {
        String[] texts = {"clock x;place a until x<=5;edge a a when x<5 reset x;", "clock x;place a until x<5;edge a a when x<5 reset x;",
            "clock x;place a until x<=5;edge a a when x<=5 reset x;", "clock x;place a until x<=5;edge a a when x>=5 reset x;",
            "clock x;place a until x<=5;edge a a when x>5 reset x;", "clock x;place a urgent;edge a a when x<=0;",
            "clock x;place a urgent;edge a a when x<0;", "clock x;place a urgent;edge a a when x>0;",
            "clock x;place a;place b until x<1;edge a b when x=1;", "clock x;place a until x<=1;place b until x<1;edge a b reset x;",
            "clock x;place a until x<0;"};
        int[] stuck = {1, 0, 0, 0, 1, 0, 1, 1, 1, 0, -1};
        for (int i = 0; i < texts.length; i++) {
            for (int way = 0; way <= 1; way++) {
                ClockReach x = Check.of(texts[i]);
                x.graph(way, true);
                Check.same("STUCK of " + texts[i], x.state(0, 5), stuck[i]);
            }
        }
    }
}
