import java.util.NoSuchElementException;

/** Promises 36 to 41: a run by hand. */
public final class PlayTest {
    private static final String TEXT = "clock x;clock y;place a until x<=4 until y<3;place b urgent;place c;"
        + "place d until x<1;edge a b when x>=1 when y>1 reset x;edge b c;edge b a when x>0;"
        + "edge c a when x=2 reset y;edge c d;";

    public static void main(String[] args) {
        byHand();
        arriving();
        noPlay();
        edges();
        waiting();
        clocks();
        replaying();
        beside();
        Check.finish("PlayTest");
    }

    private static void now(ClockReach x, int place, int time, int edges, int wait) {
        Check.same("now(0)", x.now(0), place);
        Check.same("now(1)", x.now(1), time);
        Check.same("now(2)", x.now(2), edges);
        Check.same("now(3)", x.now(3), wait);
        Check.same("now(4)", x.now(4), -1);
        Check.same("now(-1)", x.now(-1), -1);
    }

    private static void byHand() {
        ClockReach x = Check.of(TEXT);
        Check.same("begin", x.begin(), 0);
        now(x, 0, 0, 0, 767);
        Check.same("waits(768)", x.waits(768), false);
        now(x, 0, 0, 0, 767);
        Check.same("takes(0) too early", x.takes(0), -1);
        Check.same("waits(256)", x.waits(256), true);
        now(x, 0, 256, 0, 511);
        Check.same("waits(1)", x.waits(1), true);
        now(x, 0, 257, 1, 510);
        Check.same("waits(510)", x.waits(510), true);
        now(x, 0, 767, 1, 0);
        Check.same("waits(1)", x.waits(1), false);
        Check.same("waits(0)", x.waits(0), true);
        Check.same("takes(1) elsewhere", x.takes(1), -1);
        Check.same("takes(0)", x.takes(0), 1);
        now(x, 1, 767, 2, 0);
        Check.same("waits(1) in an URGENT one", x.waits(1), false);
        Check.same("waits(0) in an URGENT one", x.waits(0), true);
        Check.same("takes(2)", x.takes(2), -1);
        Check.same("takes(1)", x.takes(1), 2);
        now(x, 2, 767, 16, Integer.MAX_VALUE);
        Check.same("clock(0)", x.clock(0), 0);
        Check.same("clock(1)", x.clock(1), 767);
        Check.same("waits(512)", x.waits(512), true);
        now(x, 2, 1279, 8, Integer.MAX_VALUE);
        Check.same("takes(3)", x.takes(3), 0);
        now(x, 0, 1279, 0, 512);
        Check.same("clock(0)", x.clock(0), 512);
        Check.same("clock(1)", x.clock(1), 0);
        Check.same("begin again", x.begin(), 0);
        now(x, 0, 0, 0, 767);
    }

    /** CONDITIONS of the second PLACE have to hold: below 1 unit are 255 TIMES. */
    private static void arriving() {
        ClockReach x = Check.of(TEXT.replace("edge c d", "start c;edge c d"));
        Check.same("begin", x.begin(), 2);
        x.waits(256);
        Check.same("takes(4)", x.takes(4), -1);
        Check.same("now(2)", x.now(2), 0);
        x.begin();
        x.waits(255);
        Check.same("now(2)", x.now(2), 16);
        Check.same("takes(4)", x.takes(4), 3);
        Check.same("now(3)", x.now(3), 0);
        Check.same("now(2)", x.now(2), 0);
    }

    private static void noPlay() {
        ClockReach x = new ClockReach();
        without(x);
        Check.same("begin without PLACES", x.begin(), -1);
        without(x);
        x = Check.of("clock x;place a until x<0;");
        without(x);
        Check.same("begin where CONDITIONS don't hold", x.begin(), -1);
        without(x);
        x = Check.of(TEXT);
        x.graph(0, true);
        without(x);
        x.begin();
        Check.tape(x, TEXT);
        x.automaton();
        without(x);
    }

    private static void without(ClockReach x) {
        for (int what = -1; what < 5; what++) {
            Check.same("now(" + what + ") without", x.now(what), -1);
        }
        Check.same("waits(0) without", x.waits(0), false);
        Check.same("takes(0) without", x.takes(0), -1);
        Check.same("clock(0) without throws", throwsAt(x, 0), true);
    }

    private static boolean throwsAt(ClockReach x, int clock) {
        try {
            x.clock(clock);
            return false;
        } catch (NoSuchElementException none) {
            return true;
        }
    }

    private static void edges() {
        ClockReach x = Check.of(TEXT);
        x.begin();
        x.waits(300);
        for (int edge : new int[] {-1, 1, 2, 3, 4, 5, 14, 100, Integer.MIN_VALUE, Integer.MAX_VALUE}) {
            Check.same("takes(" + edge + ")", x.takes(edge), -1);
        }
        now(x, 0, 300, 1, 467);
        // all five signs at 2 units, one TIME to either side
        x = Check.of("clock x;place a;edge a a when x<2;edge a a when x<=2;edge a a when x=2;"
            + "edge a a when x>=2;edge a a when x>2;");
        x.begin();
        x.waits(511);
        Check.same("at 511", x.now(2), 0b00011);
        x.waits(1);
        Check.same("at 512", x.now(2), 0b01110);
        x.waits(1);
        Check.same("at 513", x.now(2), 0b11000);
    }

    private static void waiting() {
        ClockReach x = Check.of("clock x;place a;place b until x<=20;edge a b reset x;");
        x.begin();
        Check.same("waits(25600)", x.waits(25600), true);
        Check.same("waits(25601)", x.waits(25601), false);
        Check.same("waits(-1)", x.waits(-1), false);
        Check.same("waits(MIN)", x.waits(Integer.MIN_VALUE), false);
        Check.same("waits(MAX)", x.waits(Integer.MAX_VALUE), false);
        Check.same("now(1)", x.now(1), 25600);
        for (int i = 0; i < 400; i++) {
            x.waits(25600);
        }
        Check.same("now(1)", x.now(1), 401 * 25600);
        Check.same("clock(0)", x.clock(0), 401 * 25600);
        x.takes(0);
        Check.same("now(3)", x.now(3), 5120);
        Check.same("waits(5121)", x.waits(5121), false);
        Check.same("waits(5120)", x.waits(5120), true);
    }

    private static void clocks() {
        ClockReach x = Check.of(TEXT);
        x.begin();
        x.waits(9);
        Check.same("clock(0)", x.clock(0), 9);
        for (int clock : new int[] {-1, 2, 3, Integer.MIN_VALUE, Integer.MAX_VALUE}) {
            Check.same("clock(" + clock + ") throws", throwsAt(x, clock), true);
        }
        Check.same("clock(1)", x.clock(1), 9);
        x.urgent(0, true);
        Check.same("clock(0) behind an ACT throws", throwsAt(x, 0), true);
    }

    private static void replaying() {
        ClockReach x = Check.of(TEXT);
        Check.same("replays without a GRAPH", x.replays(0), false);
        int states = x.graph(0, true);
        Check.same("replays(0)", x.replays(0), true);
        now(x, 0, 0, 0, 767);
        int c = x.first(2);
        Check.same("replays to c", x.replays(c), true);
        now(x, 2, 257, 16, Integer.MAX_VALUE);
        Check.same("clock(0)", x.clock(0), 0);
        Check.same("clock(1)", x.clock(1), 257);
        Check.same("it goes on from there", x.takes(4), 3);
        for (int state : new int[] {-1, states, Integer.MIN_VALUE, Integer.MAX_VALUE}) {
            x.begin();
            Check.same("replays(" + state + ")", x.replays(state), false);
            without(x);
        }
        x.begin();
        x.urgent(2, true);
        Check.same("replays without a GRAPH", x.replays(0), false);
        without(x);
    }

    /** What is asked beside it leaves a PLAY alone. */
    private static void beside() {
        ClockReach x = Check.of(TEXT);
        x.begin();
        x.waits(300);
        x.graph(1, true);
        x.when(2, 0);
        x.latest(2, 0, 9);
        x.soonest(2, 0);
        x.lets(0, 0, 2, 0);
        x.from(0, 0, 0, 0, 2);
        x.avoids(1, 2);
        x.tells(0, 1, -1, -1, -1, 0);
        x.spans(2, 0);
        Check.same("an ACT that is none", x.number(0, 0, 1), -1);
        Check.tape(x, "place");
        x.automaton();
        now(x, 0, 300, 1, 467);
    }
}
