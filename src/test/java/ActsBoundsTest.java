import java.util.List;

/** Promises 11 to 13, each sentence that names a boundary case by itself. */
public final class ActsBoundsTest {
    private static final String TEXT = "clock x;clock y;place a until x<=4 until y<20;place b urgent;place c;"
        + "edge a b when x>2 when y>=0 reset x;edge b c;edge c a when y=9 reset y;";

    public static void main(String[] args) {
        everyNumber();
        numberRefused();
        numberThatIsThat();
        urgentRefused();
        twentyKept();
        twentyOne();
        undoTooMany();
        undoIsNoAct();
        noActsOfAnotherText();
        noGraphNoPlay();
        refusedKeepsGraphAndPlay();
        Check.finish("ActsBoundsTest");
    }

    /** N (0 .. 20) of a CONDITION: what it was. */
    private static void everyNumber() {
        int[][] conditions = {{0, 0, 2}, {0, 1, 0}, {2, 0, 9}, {100, 0, 4}, {100, 1, 20}};
        for (int[] c : conditions) {
            for (int n = -1; n <= 21; n++) {
                ClockReach x = Check.of(TEXT);
                boolean can = n >= 0 && n <= 20 && n != c[2];
                Check.same("number(" + c[0] + ", " + c[1] + ", " + n + ")", x.number(c[0], c[1], n), can ? c[2] : -1);
                Check.same("N behind it", x.condition(c[0], c[1], 2), can ? n : c[2]);
                Check.same("ACTS behind it", x.about(8), can ? 1 : 0);
                Check.same("undo", x.undo(), can);
                Check.same("N behind undo", x.condition(c[0], c[1], 2), c[2]);
            }
        }
    }

    /** NONE, doing nothing, if one can't be. */
    private static void numberRefused() {
        int[][] calls = {{-1, 0, 5}, {3, 0, 5}, {14, 0, 5}, {99, 0, 5}, {101, 0, 5}, {102, 0, 5}, {103, 0, 5}, {108, 0, 5},
            {0, -1, 5}, {0, 2, 5}, {1, 0, 5}, {2, 1, 5}, {100, -1, 5}, {100, 2, 5}, {0, 0, -1}, {0, 0, 21},
            {100, 0, -1}, {100, 0, 21}, {0, 0, Integer.MIN_VALUE}, {0, 0, Integer.MAX_VALUE},
            {0, Integer.MIN_VALUE, 5}, {0, Integer.MAX_VALUE, 5}, {Integer.MIN_VALUE, 0, 5}, {Integer.MAX_VALUE, 0, 5}};
        for (int[] c : calls) {
            ClockReach x = busy();
            List<Long> before = Calls.seen(x);
            Calls.due(x, -1, "number", c);
            Check.same(Calls.told("number", c) + " does nothing", Calls.seen(x).equals(before), true);
        }
    }

    /** NONE, doing nothing, if it is that: at first, behind an ACT, behind an UNDO. */
    private static void numberThatIsThat() {
        ClockReach x = Check.of(TEXT);
        Calls.due(x, -1, "number", 0, 0, 2);
        Calls.due(x, 2, "number", 0, 0, 3);
        Calls.due(x, -1, "number", 0, 0, 3);
        Calls.due(x, 1, "about", 8);
        Calls.due(x, 3, "number", 0, 0, 2);
        Calls.due(x, 2, "about", 8);
        Calls.due(x, -1, "number", 0, 0, 2);
        Calls.due(x, 1, "undo");
        Calls.due(x, -1, "number", 0, 0, 3);
        Calls.due(x, 1, "about", 8);
        Calls.due(x, 0, "number", 0, 1, 20);
        Calls.due(x, 20, "number", 0, 1, 0);
    }

    /** False, doing nothing, if there is none such, or it is so. */
    private static void urgentRefused() {
        int[][] calls = {{-1, 1}, {-1, 0}, {3, 1}, {3, 0}, {8, 1}, {100, 1}, {101, 0}, {0, 0}, {1, 1}, {2, 0},
            {Integer.MIN_VALUE, 1}, {Integer.MAX_VALUE, 0}};
        for (int[] c : calls) {
            ClockReach x = busy();
            List<Long> before = Calls.seen(x);
            Calls.due(x, 0, "urgent", c);
            Check.same(Calls.told("urgent", c) + " does nothing", Calls.seen(x).equals(before), true);
        }
        ClockReach x = Check.of(TEXT);
        Calls.due(x, 1, "urgent", 2, 1);
        Calls.due(x, 0, "urgent", 2, 1);
        Calls.due(x, 1, "urgent", 2, 0);
        Calls.due(x, 0, "urgent", 2, 0);
        Calls.due(x, 2, "about", 8);
    }

    /** 20 are kept: just twenty can all be undone. */
    private static void twentyKept() {
        ClockReach x = Check.of(TEXT);
        List<Long> before = Calls.seen(x);
        for (int i = 0; i < 20; i++) {
            act(x, i);
            Calls.due(x, i + 1, "about", 8);
        }
        for (int i = 20; i > 0; i--) {
            Calls.due(x, i, "about", 8);
            Calls.due(x, 1, "undo");
        }
        Calls.due(x, 0, "undo");
        Check.same("all is as it was", Calls.seen(x).equals(before), true);
    }

    /** The oldest go: of 21, 22 .. 45 ACTS the last 20 can be undone. */
    private static void twentyOne() {
        for (int all = 21; all <= 45; all++) {
            ClockReach x = Check.of(TEXT);
            ClockReach kept = Check.of(TEXT);
            for (int i = 0; i < all; i++) {
                act(x, i);
                if (i < all - 20) {
                    act(kept, i);
                }
            }
            Calls.due(x, 20, "about", 8);
            for (int i = 0; i < 20; i++) {
                Calls.due(x, 1, "undo");
            }
            Calls.due(x, 0, "about", 8);
            Calls.due(x, 0, "undo");
            for (int k = 0; k < 2; k++) {
                Check.same("N", x.condition(0, k, 2), kept.condition(0, k, 2));
                Check.same("N", x.condition(100, k, 2), kept.condition(100, k, 2));
                Check.same("limit", x.limit(k, 0), kept.limit(k, 0));
            }
            for (int p = 0; p < 3; p++) {
                Check.same("URGENT", x.place(p, 0), kept.place(p, 0));
            }
        }
    }

    /** One of several ACTS, by a number that goes on and on; none of them is what it is already. */
    private static void act(ClockReach x, int i) {
        if (i % 3 == 0) {
            int n = (x.condition(0, i % 2, 2) + 1 + i % 5) % 21;
            Check.same("an ACT", x.number(0, i % 2, n) >= 0, true);
        } else if (i % 3 == 1) {
            int place = i % 2 + i % 3 - 1;
            Check.same("an ACT", x.urgent(place, x.place(place, 0) == 0), true);
        } else {
            int n = (x.condition(100, i % 2, 2) + 3 + i % 7) % 21;
            Check.same("an ACT", x.number(100, i % 2, n) >= 0, true);
        }
    }

    /** False if there is none: all stays as it is, the GRAPH and the PLAY as well. */
    private static void undoTooMany() {
        ClockReach x = Check.of(TEXT);
        x.graph(1, false);
        x.begin();
        List<Long> before = Calls.seen(x);
        Calls.due(x, 0, "undo");
        Calls.due(x, 0, "undo");
        Check.same("it does nothing", Calls.seen(x).equals(before), true);
        x = Check.of(TEXT);
        x.urgent(0, true);
        Calls.due(x, 1, "undo");
        x.graph(1, false);
        x.begin();
        before = Calls.seen(x);
        Calls.due(x, 0, "undo");
        Check.same("it does nothing", Calls.seen(x).equals(before), true);
    }

    /** UNDO takes back the latest that was not: one by one, and never itself. */
    private static void undoIsNoAct() {
        ClockReach x = Check.of(TEXT);
        x.number(0, 0, 5);
        x.number(0, 0, 6);
        Calls.due(x, 1, "undo");
        Calls.due(x, 5, "condition", 0, 0, 2);
        Calls.due(x, 1, "about", 8);
        x.number(0, 0, 7);
        Calls.due(x, 2, "about", 8);
        Calls.due(x, 1, "undo");
        Calls.due(x, 5, "condition", 0, 0, 2);
        Calls.due(x, 1, "undo");
        Calls.due(x, 2, "condition", 0, 0, 2);
        Calls.due(x, 0, "undo");
        Calls.due(x, 2, "condition", 0, 0, 2);
    }

    /** A new text has no ACTS; one with a FAULT keeps them. */
    private static void noActsOfAnotherText() {
        ClockReach x = Check.of(TEXT);
        for (int i = 0; i < 20; i++) {
            act(x, i);
        }
        Check.tape(x, "place");
        x.automaton();
        Calls.due(x, 20, "about", 8);
        Check.tape(x, TEXT);
        x.automaton();
        Calls.due(x, 0, "about", 8);
        Calls.due(x, 0, "undo");
        Calls.due(x, 2, "condition", 0, 0, 2);
        for (int i = 0; i < 20; i++) {
            act(x, i);
        }
        Calls.due(x, 20, "about", 8);
    }

    private static ClockReach busy() {
        ClockReach x = Check.of(TEXT);
        x.number(0, 0, 1);
        x.graph(2, true);
        x.begin();
        x.waits(300);
        return x;
    }

    /** By an ACT, UNDO there is no GRAPH, no PLAY: in every call that asks for one. */
    private static void noGraphNoPlay() {
        for (int by = 0; by < 4; by++) {
            ClockReach x = busy();
            Check.same("there is a GRAPH", x.about(5) > 0, true);
            Check.same("there is a PLAY", x.now(0), 0);
            if (by == 0) {
                x.number(2, 0, 8);
            } else if (by == 1) {
                x.urgent(0, true);
            } else if (by == 2) {
                x.urgent(1, false);
            } else {
                x.undo();
            }
            for (int what = 5; what <= 7; what++) {
                Calls.due(x, -1, "about", what);
            }
            for (String name : new String[] {"state", "within", "overlap", "run", "when", "spans"}) {
                Calls.due(x, -1, name, 0, 0);
            }
            for (String name : new String[] {"first", "covered", "points", "takes", "now"}) {
                Calls.due(x, -1, name, 0);
            }
            Calls.due(x, -1, "reached");
            Calls.due(x, -1, "taken");
            Calls.due(x, -1, "has", 0, 0, 0, 0);
            Calls.due(x, -1, "then", 1, 0, 0);
            Calls.due(x, -1, "latest", 1, 0, 1000);
            Calls.due(x, Integer.MIN_VALUE, "bound", 0, 0, -1, 0);
            Calls.due(x, 0, "waits", 0);
            Calls.due(x, Calls.THROWS, "clock", 0);
            Calls.due(x, 0, "replays", 0);
            // both can be had again
            Check.same("a GRAPH again", x.graph(0, true) > 0, true);
            Check.same("a PLAY again", x.begin(), 0);
        }
    }

    private static void refusedKeepsGraphAndPlay() {
        ClockReach x = busy();
        x.undo();
        x.graph(2, true);
        x.begin();
        int states = x.about(5);
        Calls.due(x, 0, "undo");
        Calls.due(x, -1, "number", 0, 0, 2);
        Calls.due(x, -1, "number", 0, 0, 21);
        Calls.due(x, 0, "urgent", 0, 0);
        Calls.due(x, states, "about", 5);
        Calls.due(x, 2, "about", 7);
        Calls.due(x, 0, "now", 0);
    }
}
