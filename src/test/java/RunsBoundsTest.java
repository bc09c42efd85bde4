import java.util.Random;

/** Promises 28 to 35, each sentence that names a boundary case by itself. */
public final class RunsBoundsTest {
    private static final int FREE = Integer.MAX_VALUE;

    public static void main(String[] args) {
        firstState();
        stepsThatAreNot();
        leastTimes();
        greatestTimes();
        unitsTo1000();
        noneByThen();
        everyStateHasTimes();
        spansAtTheEnds();
        noGreatestTime();
        tellsUpToFive();
        tellsNone();
        soonUpTo60();
        soonBeyond60();
        soonOfSeveral();
        soonWithout();
        soonFull();
        soonByWay2();
        soonOfAnotherText();
        letsAtTheEnds();
        letsByNone();
        letsRefused();
        letsLeavesAll();
        Check.finish("RunsBoundsTest");
    }

    /** The RUN to the first STATE has no EDGES; its spans are 0, 1, 0, 1, whatever its PLACE is. */
    private static void firstState() {
        String[] texts = {"place a;", "place a urgent;", "clock x;place a until x<=0;", "clock x;place a until x<20;edge a a;"};
        for (String text : texts) {
            for (int way = 0; way <= 2; way++) {
                ClockReach x = Check.of(text);
                x.graph(way, true);
                for (int k = -1; k <= 1; k++) {
                    Calls.due(x, -1, "run", 0, k);
                    Calls.due(x, -1, "when", 0, k);
                    Calls.due(x, -1, "then", 0, k, 0);
                    Calls.due(x, -1, "latest", 0, k, 1000);
                }
                int[] spans = {-1, 0, 1, 0, 1, -1};
                for (int what = -1; what <= 4; what++) {
                    Calls.due(x, spans[what + 1], "spans", 0, what);
                    Calls.due(x, spans[what + 1], "tells", -1, -1, -1, -1, -1, what);
                }
                Calls.due(x, 1, "replays", 0);
                Calls.due(x, 0, "now", 1);
            }
        }
    }

    /** NONE if there is none such: k below 0, or as many as there are. */
    private static void stepsThatAreNot() {
        ClockReach x = Check.of("clock x;place a;place b;place c;edge a b when x>=1;edge b c when x>=2;");
        x.graph(0, true);
        for (int state = 1; state <= 2; state++) {
            for (int k : new int[] {Integer.MIN_VALUE, -2, -1, 0, 1, 2, 3, 119, 120, Integer.MAX_VALUE}) {
                boolean there = k >= 0 && k < state;
                Calls.due(x, there ? k : -1, "run", state, k);
                Calls.due(x, there ? 256 * (k + 1) : -1, "when", state, k);
                Calls.due(x, there ? 256 * (k + 1) : -1, "then", state, k, 0);
                Calls.due(x, there ? 1280 : -1, "latest", state, k, 5);
            }
        }
    }

    /** By TIMES "above" is 1 more at least; of all such the least ones. */
    private static void leastTimes() {
        String[] told = {">=0", ">0", "=3", ">=3", ">3", ">=20", ">20", "<=0", "<1"};
        int[] when = {0, 1, 768, 768, 769, 5120, 5121, 0, 0};
        for (int i = 0; i < told.length; i++) {
            ClockReach x = Check.of("clock x;clock y;place a;place b;edge a b when x" + told[i] + " reset y;");
            x.graph(0, true);
            Calls.due(x, when[i], "when", 1, 0);
            Calls.due(x, when[i], "then", 1, 0, 0);
            Calls.due(x, 0, "then", 1, 0, 1);
        }
        // in an URGENT PLACE at once, though that makes the EDGE ahead wait
        ClockReach x = Check.of("clock x;place a;place b urgent;place c;edge a b;edge b c when x>4;");
        x.graph(0, true);
        Calls.due(x, 1025, "when", 2, 0);
        Calls.due(x, 1025, "when", 2, 1);
        Calls.due(x, 0, "when", 1, 0);
    }

    /** By TIMES "below" is 1 less at most; the greatest ones by which the last one is taken by so many units. */
    private static void greatestTimes() {
        String[] told = {"<1", "<=1", "<5", "<=5", "=5", "<=20"};
        int[] latest = {255, 256, 1279, 1280, 1280, 2560};
        for (int i = 0; i < told.length; i++) {
            ClockReach x = Check.of("clock x;place a;place b;edge a b when x" + told[i] + ";");
            x.graph(0, true);
            Calls.due(x, latest[i], "latest", 1, 0, 10);
            x = Check.of("clock x;place a" + (told[i].startsWith("=") ? " until x<=5" : " until x" + told[i])
                + ";place b;edge a b;");
            x.graph(0, true);
            Calls.due(x, latest[i], "latest", 1, 0, 10);
        }
    }

    /** Units 0 .. 1000; TIMES 256 * that at most. */
    private static void unitsTo1000() {
        ClockReach x = Check.of("clock x;place a;place b;place c;edge a b;edge b c;");
        x.graph(0, true);
        int[] units = {Integer.MIN_VALUE, -2, -1, 0, 1, 2, 999, 1000, 1001, 1002, Integer.MAX_VALUE};
        for (int unit : units) {
            boolean can = unit >= 0 && unit <= 1000;
            for (int k = 0; k < 2; k++) {
                Calls.due(x, can ? 256 * unit : -1, "latest", 2, k, unit);
            }
        }
    }

    /** NONE if there are none by then: just as many units as it takes, and one less. */
    private static void noneByThen() {
        // just 20 units an EDGE: fifty of them are 1000 units
        ClockReach x = Check.of("clock x;clock y;place a until x<=20;edge a a when x=20 reset x;");
        x.graph(0, true);
        for (int state = 1; state <= 51; state += 7) {
            int takes = 20 * state;
            Calls.due(x, takes <= 1000 ? 256 * takes : -1, "latest", state, state - 1, Math.min(takes, 1000));
            Calls.due(x, -1, "latest", state, state - 1, takes - 1);
        }
        Calls.due(x, 256000, "latest", 50, 49, 1000);
        Calls.due(x, -1, "latest", 50, 49, 999);
        Calls.due(x, -1, "latest", 51, 0, 1000);
        Calls.due(x, 256 * 20 * 51, "when", 51, 50);
        // above 3 units: 3 are too few, by one TIME
        x = Check.of("clock x;place a;place b;edge a b when x>3;");
        x.graph(0, true);
        Calls.due(x, -1, "latest", 1, 0, 3);
        Calls.due(x, 1024, "latest", 1, 0, 4);
        x.number(0, 0, 0);
        x.graph(0, true);
        Calls.due(x, -1, "latest", 1, 0, 0);
        Calls.due(x, 256, "latest", 1, 0, 1);
    }

    /** What is forgotten lets no STATE come that no run comes to: each RUN has TIMES, by every way. */
    private static void everyStateHasTimes() {
        Random random = new Random(28);
        for (int i = 0; i < 400; i++) {
            Told told = Told.random(random, 1 + random.nextInt(3), 1 + random.nextInt(20));
            ClockReach x = Check.of(told.text());
            int way = i % 3;
            int states = x.graph(way, i % 2 == 0);
            for (int s = 1; s < states; s += 1 + states / 30) {
                int last = x.state(s, 3) - 1;
                Check.same("TIMES of STATE " + s + ", way " + way + " of " + told.text(), x.when(s, last) >= 0, true);
                Check.same("a run of them", x.spans(s, 0) >= 0, true);
            }
        }
    }

    /** The least time and the greatest, and whether one takes just that. */
    private static void spansAtTheEnds() {
        String[] texts = {"place a until x<=5;place b;edge a b when x>=3;", "place a until x<5;place b;edge a b when x>3;",
            "place a until x<=5;place b;edge a b when x=5;", "place a urgent;place b;edge a b;",
            "place a until x<1;place b;edge a b when x>0;", "place a until x<=0;place b;edge a b;",
            "place a;place b until x<=7;edge a b when x>2;", "place a;place b until x<7;edge a b when x>=2;"};
        int[][] spans = {{3, 1, 5, 1}, {3, 0, 5, 0}, {5, 1, 5, 1}, {0, 1, 0, 1}, {0, 0, 1, 0}, {0, 1, 0, 1}, {2, 0, 7, 1},
            {2, 1, 7, 0}};
        for (int i = 0; i < texts.length; i++) {
            ClockReach x = Check.of("clock x;" + texts[i]);
            for (int way = 0; way <= 2; way++) {
                x.graph(way, true);
                for (int what = 0; what < 4; what++) {
                    Calls.due(x, spans[i][what], "spans", 1, what);
                    Calls.due(x, spans[i][what], "tells", 0, -1, -1, -1, -1, what);
                }
                Calls.due(x, -1, "spans", 1, -1);
                Calls.due(x, -1, "spans", 1, 4);
            }
        }
    }

    /** The greatest (Integer.MAX_VALUE: there is none), 0 without. */
    private static void noGreatestTime() {
        ClockReach x = Check.of("clock x;place a;place b until x<=9;place c;edge a b reset x;edge b c when x>=9;");
        x.graph(0, true);
        for (int state = 1; state <= 2; state++) {
            Calls.due(x, FREE, "spans", state, 2);
            Calls.due(x, 0, "spans", state, 3);
        }
        Calls.due(x, 0, "spans", 1, 0);
        Calls.due(x, 9, "spans", 2, 0);
        x.urgent(0, true);
        x.graph(0, true);
        Calls.due(x, 9, "spans", 2, 2);
        Calls.due(x, 1, "spans", 2, 3);
        // a hundred and nineteen EDGES of 20 units
        x = Check.of("clock x;clock y;place a until x<=20;edge a a when x=20 reset x;");
        x.graph(0, true);
        Calls.due(x, 2380, "spans", 119, 0);
        Calls.due(x, 2380, "spans", 119, 2);
    }

    /** By up to five EDGES from the start (up to the first NONE): what stands behind it is no matter. */
    private static void tellsUpToFive() {
        ClockReach x = Check.of("clock x;place a until x<=3;edge a a when x>=2 reset x;edge a a when x<0;");
        for (int count = 0; count <= 5; count++) {
            int[] call = {Integer.MAX_VALUE, 1, -7, 99, Integer.MIN_VALUE, 0};
            for (int i = 0; i < count; i++) {
                call[i] = 0;
            }
            if (count < 5) {
                call[count] = -1;
            }
            int[] spans = {2 * count, 1, 3 * count, 1};
            for (int what = 0; what < 4; what++) {
                call[5] = what;
                Calls.due(x, spans[what], "tells", call);
            }
        }
        Calls.due(x, -1, "about", 5);
    }

    /** NONE if one can't be, there is no such run, there are no PLACES, or for another what. */
    private static void tellsNone() {
        ClockReach x = Check.of("clock x;place a;place b;edge a b;edge b a;edge a b when x>3 when x<=3;");
        for (int what = -1; what <= 4; what++) {
            Calls.due(x, what == 0 || what == 1 ? what : what == 2 ? FREE : what == 3 ? 0 : -1, "tells", 0, 1, 0, 1, 0, what);
        }
        for (int at = 0; at < 5; at++) {
            for (int edge : new int[] {-2, 3, 14, 100, Integer.MIN_VALUE, Integer.MAX_VALUE}) {
                int[] call = {0, 1, 0, 1, 0, 0};
                call[at] = edge;
                Calls.due(x, -1, "tells", call);
            }
            // from elsewhere, and one whose CONDITIONS never hold
            int[] call = {0, 1, 0, 1, 0, 0};
            call[at] = 1 - call[at];
            Calls.due(x, -1, "tells", call);
            call[at] = 2;
            Calls.due(x, -1, "tells", call);
        }
        Calls.due(new ClockReach(), -1, "tells", -1, -1, -1, -1, -1, 0);
        Calls.due(Check.of("clock x;place a until x<0;"), -1, "tells", -1, -1, -1, -1, -1, 0);
    }

    private static ClockReach to40(String last) {
        return Check.of("clock x;place a;place b;place c;place d;place e;edge a b when x>=20 reset x;"
            + "edge b c when x>=20 reset x;edge c d when x" + last + ";edge d e when x>20;");
    }

    /** SOONEST up to 60: that, and whether it may be just that. */
    private static void soonUpTo60() {
        String[] told = {">=0", ">0", ">=19", ">19", ">=20", "=20"};
        int[][] soonest = {{40, 1}, {40, 0}, {59, 1}, {59, 0}, {60, 1}, {60, 1}};
        for (int i = 0; i < told.length; i++) {
            ClockReach x = to40(told[i]);
            for (int what = 0; what < 2; what++) {
                Calls.due(x, soonest[i][what], "soonest", 3, what);
                Calls.due(x, what == 0 ? 40 : 1, "soonest", 2, what);
                Calls.due(x, what == 0 ? 20 : 1, "soonest", 1, what);
                Calls.due(x, what == 0 ? 0 : 1, "soonest", 0, what);
            }
        }
    }

    /** NONE if its least is "above 60", by one TIME or by a unit, or if that comes of other CLOCKS. */
    private static void soonBeyond60() {
        ClockReach x = to40(">20");
        Calls.due(x, -1, "soonest", 3, 0);
        Calls.due(x, -1, "soonest", 3, 1);
        x = to40(">=20");
        Calls.due(x, -1, "soonest", 4, 0);
        Calls.due(x, -1, "soonest", 4, 1);
        x = Check.of("clock x;place a;place b;place c;place d;place e;edge a b when x>=20 reset x;edge b c when x>=20 reset x;"
            + "edge c d when x>=20 reset x;edge d e when x>=5;edge e e when x<=20;");
        Calls.due(x, 60, "soonest", 3, 0);
        Calls.due(x, -1, "soonest", 4, 0);
        Calls.due(x, -1, "soonest", 4, 1);
    }

    /** Of its STATES the least: one is above 60, one is not; of two alike the one that may be just that. */
    private static void soonOfSeveral() {
        ClockReach x = Check.of("clock x;place a;place b;place c;place d;place e;edge a b when x>=20 reset x;"
            + "edge b c when x>=20 reset x;edge c e when x>20 reset x;edge c e when x>=20 when x<=20;edge a d;edge d e when x>=20;"
            + "edge d e when x>19;");
        Calls.due(x, 19, "soonest", 4, 0);
        Calls.due(x, 0, "soonest", 4, 1);
        x.number(6, 0, 20);
        Calls.due(x, 20, "soonest", 4, 0);
        Calls.due(x, 1, "soonest", 4, 1);
    }

    /** NONE if it has no STATE there, if there is no such PLACE, or for another what. */
    private static void soonWithout() {
        ClockReach x = Check.of("clock x;place a until x<=3;place b;edge a b when x>3;");
        Calls.due(x, -1, "soonest", 1, 0);
        Calls.due(x, -1, "soonest", 1, 1);
        for (int what : new int[] {-1, 2, Integer.MIN_VALUE, Integer.MAX_VALUE}) {
            Calls.due(x, -1, "soonest", 0, what);
        }
        for (int place : new int[] {-1, 2, 8, 100, Integer.MIN_VALUE, Integer.MAX_VALUE}) {
            Calls.due(x, -1, "soonest", place, 0);
            Calls.due(x, -1, "soonest", place, 1);
        }
        // it goes by what the AUTOMATON is now
        x.number(100, 0, 4);
        Calls.due(x, 3, "soonest", 1, 0);
        x.undo();
        Calls.due(x, -1, "soonest", 1, 0);
        x.number(0, 0, 2);
        Calls.due(x, 2, "soonest", 1, 0);
        x.urgent(0, true);
        Calls.due(x, -1, "soonest", 1, 0);
        Check.tape(x, "place a;place b;edge a b;");
        x.automaton();
        Calls.due(x, 0, "soonest", 1, 0);
        Calls.due(x, 1, "soonest", 1, 1);
    }

    /** -2: SOON is FULL; it has 400 STATES, where the GRAPH has 120, and one is LEFT OUT of it as of others. */
    private static void soonFull() {
        String text = "clock x;clock y;clock z;place a until x<=1;place b;edge a a when x=1 reset x;"
            + "edge a a when x=1 reset x reset y;edge a a when x=1 reset x reset z;edge a b when y=20;edge a b when z=20;edge b b;";
        ClockReach x = Check.of(text);
        Calls.due(x, 120, "graph", 2, 1);
        Calls.due(x, 1, "about", 6);
        for (int what = 0; what < 2; what++) {
            Calls.due(x, -2, "soonest", 0, what);
            Calls.due(x, -2, "soonest", 1, what);
        }
        Calls.due(x, -1, "soonest", 2, 0);
        Calls.due(x, -1, "soonest", 0, 2);
        // lesser numbers make fewer STATES: more than 120, not more than 400
        x.number(3, 0, 6);
        x.number(4, 0, 6);
        Calls.due(x, 120, "graph", 2, 1);
        Calls.due(x, 1, "about", 6);
        Calls.due(x, 6, "soonest", 1, 0);
        Calls.due(x, 1, "soonest", 1, 1);
    }

    /** By way 2: by way 1, which tells y and z apart up to 20, it would be FULL. */
    private static void soonByWay2() {
        ClockReach x = Check.of("clock x;clock y;clock z;place a until x<=1;place b;place c;edge a a when x=1 reset x;"
            + "edge a a when x=1 reset x reset y;edge a a when x=1 reset x reset z;edge c c when y<20 when z<20;edge a b when x=1;");
        int[] soonest = {0, 1, -1};
        for (int p = 0; p < 3; p++) {
            Calls.due(x, soonest[p], "soonest", p, 0);
        }
        Calls.due(x, 120, "graph", 1, 1);
        Calls.due(x, 12, "graph", 2, 1);
    }

    /** LOWER 0 of the CLOCK more, whatever CLOCKS there were in the text ahead: with 20 it would be FULL. */
    private static void soonOfAnotherText() {
        ClockReach x = Check.of("clock x;clock y;clock z;place a;edge a a when z>20;");
        Calls.due(x, 0, "soonest", 0, 0);
        Check.tape(x, "clock x;clock y;place a until x<=1;place b;place c;edge a a when x=1 reset x;"
            + "edge a a when x=1 reset x reset y;edge c c when y>20 when y<20;edge a b when y=20;");
        x.automaton();
        int[] soonest = {0, 20, -1};
        for (int p = 0; p < 3; p++) {
            Calls.due(x, soonest[p], "soonest", p, 0);
        }
    }

    /** The least, the greatest N (0 .. 20): 0, 20, one alone, and what is there by way of an earlier start. */
    private static void letsAtTheEnds() {
        String[] texts = {"place a until x<=7;place b;edge a b when x=1 when x>=7;", "place a;place b;edge a b when x<1 when x>=20;",
            "place a until x<1;place b;edge a b when x>20;", "place a until x<1;place b;edge a b when x>19;",
            "place a;place b;edge a b when x>=1 when x<=0;", "place a;place b;edge a b when x>1 when x<=20;",
            "place a until x<1;place b;edge a b;"};
        int[][] calls = {{0, 0, 7, 7}, {0, 0, -2, -2}, {100, 0, -2, -2}, {100, 0, 20, 20}, {0, 0, 0, 0}, {0, 0, 0, 19},
            {100, 0, 1, 20}};
        for (int i = 0; i < texts.length; i++) {
            ClockReach x = Check.of("clock x;" + texts[i]);
            Calls.due(x, calls[i][2], "lets", calls[i][0], calls[i][1], 1, 0);
            Calls.due(x, calls[i][3], "lets", calls[i][0], calls[i][1], 1, 1);
        }
    }

    /** -2 if by none. */
    private static void letsByNone() {
        ClockReach x = Check.of("clock x;place a;place b;place c;edge a b when x<5;");
        for (int what = 0; what < 2; what++) {
            Calls.due(x, -2, "lets", 0, 0, 2, what);
        }
        Calls.due(x, 1, "lets", 0, 0, 1, 0);
        Calls.due(x, 20, "lets", 0, 0, 1, 1);
        // by every one: the PLACE at which it begins
        Calls.due(x, 0, "lets", 0, 0, 0, 0);
        Calls.due(x, 20, "lets", 0, 0, 0, 1);
        // a start that no number of that CONDITION helps
        x = Check.of("clock x;place a until x<0 until x<=3;");
        Calls.due(x, -2, "lets", 100, 1, 0, 0);
        Calls.due(x, 1, "lets", 100, 0, 0, 0);
    }

    /** NONE if one can't be, or for another what. */
    private static void letsRefused() {
        ClockReach x = Check.of("clock x;place a until x<=5;place b;edge a b when x>1 when x<4;edge b a;");
        int[] odd = {Integer.MIN_VALUE, -2, -1, Integer.MAX_VALUE};
        for (int value : odd) {
            Calls.due(x, -1, "lets", value, 0, 0, 0);
            Calls.due(x, -1, "lets", 0, value, 0, 0);
            Calls.due(x, -1, "lets", 0, 0, value, 0);
            Calls.due(x, -1, "lets", 0, 0, 0, value);
        }
        int[][] calls = {{0, 2, 0, 0}, {1, 0, 0, 0}, {2, 0, 0, 0}, {99, 0, 0, 0}, {100, 1, 0, 0}, {101, 0, 0, 0},
            {102, 0, 0, 0}, {0, 0, 2, 0}, {0, 0, 0, 2}};
        for (int[] call : calls) {
            Calls.due(x, -1, "lets", call);
        }
    }

    /** What would be: nothing is another one behind it, and no ACT is kept. */
    private static void letsLeavesAll() {
        ClockReach x = Check.of("clock x;clock y;place a until x<=5;place b;edge a b when x>1 when y<4 reset x;edge b a;");
        x.number(0, 0, 2);
        x.graph(1, false);
        x.begin();
        x.waits(700);
        int soonest = x.soonest(1, 0);
        java.util.List<Long> before = Calls.seen(x);
        x.lets(0, 0, 1, 0);
        x.lets(0, 1, 1, 1);
        x.lets(100, 0, 1, 0);
        x.from(1, 9, 60, 0, 0);
        x.avoids(0, 1);
        x.tells(0, 1, 0, 1, -1, 2);
        Check.same("all is as it was", Calls.seen(x).equals(before), true);
        Check.same("SOONEST", x.soonest(1, 0), soonest);
    }
}
