/** Promises 11 to 13: numbers changed, PLACES made URGENT, undone; 20 ACTS are kept. */
public final class ActsTest {
    private static final String TEXT = "clock x;place a until x<=4;place b;edge a b when x>2 when x<9;edge b a;";

    public static void main(String[] args) {
        numbers();
        urgency();
        undoing();
        keeping();
        dropping();
        Check.finish("ActsTest");
    }

    private static void numbers() {
        ClockReach x = Check.of(TEXT);
        Check.same("number(0, 0, 5)", x.number(0, 0, 5), 2);
        Check.same("it is 5", x.condition(0, 0, 2), 5);
        Check.same("the other one stays", x.condition(0, 1, 2), 9);
        Check.same("number to what it is", x.number(0, 0, 5), -1);
        Check.same("number(100, 0, 0)", x.number(100, 0, 0), 4);
        Check.same("number(100, 0, 20)", x.number(100, 0, 20), 0);
        Check.same("three ACTS", x.about(8), 3);
        int[][] wrong = {{0, 0, 21}, {0, 0, -1}, {0, 2, 1}, {0, -1, 1}, {1, 0, 1}, {2, 0, 1}, {-1, 0, 1}, {101, 0, 1},
            {102, 0, 1}, {99, 0, 1}, {0, 0, Integer.MIN_VALUE}, {Integer.MAX_VALUE, 0, 1}};
        for (int[] call : wrong) {
            Check.same("number(" + call[0] + ", " + call[1] + ", " + call[2] + ")",
                x.number(call[0], call[1], call[2]), -1);
        }
        Check.same("still three ACTS", x.about(8), 3);
        Check.same("how it is stays", x.condition(100, 0, 1), 1);
        // what is reached goes by the new number: x <= 20 and x > 5 let it on, x <= 5 do not
        Check.same("graph", x.graph(0, true), 2);
        Check.same("number(100, 0, 5)", x.number(100, 0, 5), 20);
        Check.same("graph", x.graph(0, true), 1);
    }

    private static void urgency() {
        ClockReach x = Check.of(TEXT);
        Check.same("urgent(0, false) is so", x.urgent(0, false), false);
        Check.same("urgent(0, true)", x.urgent(0, true), true);
        Check.same("urgent(0, true) is so", x.urgent(0, true), false);
        Check.same("place(0, 0)", x.place(0, 0), 1);
        Check.same("place(1, 0)", x.place(1, 0), 0);
        Check.same("urgent(2, true)", x.urgent(2, true), false);
        Check.same("urgent(-1, true)", x.urgent(-1, true), false);
        Check.same("urgent(100, true)", x.urgent(100, true), false);
        Check.same("one ACT", x.about(8), 1);
        Check.same("nothing goes on", x.graph(0, true), 1);
        Check.same("urgent(0, false)", x.urgent(0, false), true);
        Check.same("place(0, 0)", x.place(0, 0), 0);
        Check.same("two ACTS", x.about(8), 2);
        Check.same("it goes on", x.graph(0, true), 2);
    }

    private static void undoing() {
        ClockReach x = Check.of(TEXT);
        Check.same("nothing to undo", x.undo(), false);
        x.number(0, 0, 3);
        x.urgent(1, true);
        x.number(0, 0, 7);
        Check.same("undo", x.undo(), true);
        Check.same("number", x.condition(0, 0, 2), 3);
        Check.same("ACTS", x.about(8), 2);
        Check.same("undo", x.undo(), true);
        Check.same("urgent", x.place(1, 0), 0);
        x.number(0, 1, 1);
        Check.same("ACTS", x.about(8), 2);
        Check.same("undo", x.undo(), true);
        Check.same("number", x.condition(0, 1, 2), 9);
        Check.same("undo", x.undo(), true);
        Check.same("number", x.condition(0, 0, 2), 2);
        Check.same("nothing to undo", x.undo(), false);
        Check.same("ACTS", x.about(8), 0);
    }

    private static void keeping() {
        ClockReach x = Check.of(TEXT);
        for (int i = 1; i <= 20; i++) {
            x.number(0, 0, i == 2 ? 0 : i);
            Check.same("ACTS", x.about(8), i);
        }
        Check.same("urgent, the 21st", x.urgent(1, true), true);
        Check.same("20 are kept", x.about(8), 20);
        x.number(0, 1, 8);
        Check.same("20 are kept", x.about(8), 20);
        for (int i = 0; i < 20; i++) {
            Check.same("undo " + i, x.undo(), true);
        }
        Check.same("no more", x.undo(), false);
        Check.same("the two oldest are gone", x.condition(0, 0, 2), 0);
        Check.same("all else is back", x.condition(0, 1, 2), 9);
        Check.same("all else is back", x.place(1, 0), 0);
    }

    private static void dropping() {
        ClockReach x = Check.of(TEXT);
        x.graph(2, true);
        x.begin();
        Check.same("an ACT that is none", x.number(0, 0, 2), -1);
        Check.same("an ACT that is none", x.urgent(0, false), false);
        Check.same("an UNDO that is none", x.undo(), false);
        Check.same("the GRAPH stays", x.about(5), 2);
        Check.same("the PLAY stays", x.now(0), 0);
        x.number(0, 0, 3);
        gone(x, "number");
        x.graph(2, true);
        x.begin();
        x.urgent(0, true);
        gone(x, "urgent");
        x.graph(2, true);
        x.begin();
        x.undo();
        gone(x, "undo");
    }

    private static void gone(ClockReach x, String by) {
        Check.same("about(5) behind " + by, x.about(5), -1);
        Check.same("about(6) behind " + by, x.about(6), -1);
        Check.same("about(7) behind " + by, x.about(7), -1);
        Check.same("now(0) behind " + by, x.now(0), -1);
        Check.same("waits behind " + by, x.waits(0), false);
        Check.same("state behind " + by, x.state(0, 0), -1);
        Check.same("reached behind " + by, x.reached(), -1);
        Check.same("taken behind " + by, x.taken(), -1);
        Check.same("first behind " + by, x.first(0), -1);
        Check.same("within behind " + by, x.within(0, 0), -1);
        Check.same("has behind " + by, x.has(0, 0, 0, 0), -1);
        Check.same("overlap behind " + by, x.overlap(0, 0), -1);
        Check.same("covered behind " + by, x.covered(0), -1);
        Check.same("points behind " + by, x.points(0), -1);
        Check.same("run behind " + by, x.run(1, 0), -1);
        Check.same("when behind " + by, x.when(1, 0), -1);
        Check.same("then behind " + by, x.then(1, 0, 0), -1);
        Check.same("spans behind " + by, x.spans(0, 0), -1);
        Check.same("latest behind " + by, x.latest(1, 0, 9), -1);
        Check.same("bound behind " + by, x.bound(0, 0, 0, 0), Integer.MIN_VALUE);
    }
}
