import java.util.List;

/** Promises 36 to 41, each sentence that names a boundary case by itself. */
public final class PlayBoundsTest {
    private static final int FREE = Integer.MAX_VALUE;
    private static final String TEXT = "clock x;clock y;place a until x<=4 until y<3;place b urgent;place c;"
        + "edge a b when x>=1 reset x;edge b c;edge c a when y=20 reset x reset y;";

    public static void main(String[] args) {
        beginThatCanNotBe();
        beginAnew();
        waitsTo25600();
        waitsAsLongAsMayBe();
        waitsAtOnce();
        waitsRefused();
        takesAtBounds();
        takesWhereSecondHolds();
        takesRefused();
        nowWithout();
        nowWhats();
        longestWaits();
        clockThrows();
        clocksGoOnAlike();
        replaysRefused();
        replaysEveryState();
        Check.finish("PlayBoundsTest");
    }

    private static void noPlay(ClockReach x) {
        for (int what = -1; what <= 4; what++) {
            Calls.due(x, -1, "now", what);
        }
        Calls.due(x, 0, "waits", 0);
        Calls.due(x, 0, "waits", 1);
        Calls.due(x, -1, "takes", 0);
        for (int clock = -1; clock <= 3; clock++) {
            Calls.due(x, Calls.THROWS, "clock", clock);
        }
    }

    /** NONE, and there is no PLAY, if CONDITIONS of that don't hold, or there is none. */
    private static void beginThatCanNotBe() {
        ClockReach x = new ClockReach();
        noPlay(x);
        Calls.due(x, -1, "begin");
        noPlay(x);
        String[] texts = {"clock x;place a until x<0;", "clock x;place a;place b until x<=9 until x<0;start b;edge a b;"};
        for (String text : texts) {
            x = Check.of(text);
            Calls.due(x, -1, "begin");
            noPlay(x);
        }
        x.number(101, 1, 1);
        Calls.due(x, 1, "begin");
        Calls.due(x, 255, "now", 3);
        x.undo();
        noPlay(x);
        Calls.due(x, -1, "begin");
        noPlay(x);
        x = Check.of("clock x;place a until x<=0;");
        Calls.due(x, 0, "begin");
        Calls.due(x, 0, "now", 3);
    }

    /** It begins, all CLOCKS 0, wherever the PLAY was. */
    private static void beginAnew() {
        ClockReach x = Check.of(TEXT);
        Calls.due(x, 0, "begin");
        x.waits(400);
        x.takes(0);
        x.takes(1);
        x.waits(25600);
        Calls.due(x, 2, "now", 0);
        Calls.due(x, 0, "begin");
        Calls.due(x, 0, "now", 0);
        Calls.due(x, 0, "now", 1);
        Calls.due(x, 0, "clock", 0);
        Calls.due(x, 0, "clock", 1);
    }

    /** So many TIMES (0 .. 25,600). */
    private static void waitsTo25600() {
        int[] times = {Integer.MIN_VALUE, -25600, -2, -1, 0, 1, 255, 256, 25599, 25600, 25601, 25856, Integer.MAX_VALUE};
        for (int time : times) {
            ClockReach x = Check.of("clock x;place a;");
            x.begin();
            x.waits(7);
            boolean can = time >= 0 && time <= 25600;
            Calls.due(x, can ? 1 : 0, "waits", time);
            Calls.due(x, can ? 7 + time : 7, "now", 1);
            Calls.due(x, can ? 7 + time : 7, "clock", 0);
        }
        ClockReach x = Check.of("clock x;place a;");
        x.begin();
        for (int i = 1; i <= 500; i++) {
            x.waits(25600);
        }
        Calls.due(x, 500 * 25600, "now", 1);
        Calls.due(x, 500 * 25600, "clock", 0);
        Calls.due(x, FREE, "now", 3);
    }

    /** Just as long as may be, and 1 more. */
    private static void waitsAsLongAsMayBe() {
        String[] told = {"<1", "<=1", "<3", "<=3", "<20", "<=20"};
        int[] most = {255, 256, 767, 768, 5119, 5120};
        for (int i = 0; i < told.length; i++) {
            for (int part = 0; part <= most[i]; part += 1 + most[i] / 5) {
                ClockReach x = Check.of("clock x;place a until x" + told[i] + ";");
                x.begin();
                Calls.due(x, most[i], "now", 3);
                Calls.due(x, 1, "waits", part);
                Calls.due(x, most[i] - part, "now", 3);
                Calls.due(x, 0, "waits", most[i] - part + 1);
                Calls.due(x, part, "now", 1);
                Calls.due(x, 1, "waits", most[i] - part);
                Calls.due(x, 0, "now", 3);
                Calls.due(x, 0, "waits", 1);
                Calls.due(x, 1, "waits", 0);
                Calls.due(x, most[i], "now", 1);
            }
        }
    }

    /** In an URGENT PLACE no time goes by: 0 may be waited, 1 may not. */
    private static void waitsAtOnce() {
        ClockReach x = Check.of("clock x;place a urgent until x<=9;edge a a;");
        x.begin();
        Calls.due(x, 0, "now", 3);
        Calls.due(x, 1, "waits", 0);
        Calls.due(x, 0, "waits", 1);
        Calls.due(x, 0, "now", 1);
        Calls.due(x, 1, "now", 2);
    }

    /** False, doing nothing. */
    private static void waitsRefused() {
        for (int times : new int[] {Integer.MIN_VALUE, -1, 768 - 300, 25600, 25601, Integer.MAX_VALUE}) {
            ClockReach x = Check.of(TEXT);
            x.graph(0, true);
            x.begin();
            x.waits(300);
            List<Long> before = Calls.seen(x);
            Calls.due(x, 0, "waits", times);
            Check.same("waits(" + times + ") does nothing", Calls.seen(x).equals(before), true);
        }
    }

    /** An EDGE's CONDITIONS, one TIME to either side of the number. */
    private static void takesAtBounds() {
        String[] told = {"<2", "<=2", "=2", ">=2", ">2"};
        int[][] can = {{1, 0, 0}, {1, 1, 0}, {0, 1, 0}, {0, 1, 1}, {0, 0, 1}};
        for (int i = 0; i < told.length; i++) {
            for (int d = -1; d <= 1; d++) {
                ClockReach x = Check.of("clock x;place a;place b;edge a b when x" + told[i] + " reset x;");
                x.begin();
                x.waits(512 + d);
                boolean may = can[i][d + 1] == 1;
                Calls.due(x, can[i][d + 1], "now", 2);
                Calls.due(x, may ? 1 : -1, "takes", 0);
                Calls.due(x, may ? 1 : 0, "now", 0);
                Calls.due(x, may ? 0 : 512 + d, "clock", 0);
                Calls.due(x, 512 + d, "now", 1);
            }
        }
    }

    /** CONDITIONS of its second PLACE have to hold then, CLOCKS being set back. */
    private static void takesWhereSecondHolds() {
        String[] resets = {"", " reset x"};
        for (int back = 0; back < 2; back++) {
            for (int d = 0; d <= 1; d++) {
                ClockReach x = Check.of("clock x;place a;place b until x<=2;place c until x<0;edge a b" + resets[back]
                    + ";edge a c" + resets[back] + ";");
                x.begin();
                x.waits(512 + d);
                boolean may = back == 1 || d == 0;
                Calls.due(x, may ? 1 : 0, "now", 2);
                Calls.due(x, -1, "takes", 1);
                Calls.due(x, may ? 1 : -1, "takes", 0);
                Calls.due(x, may ? back == 1 ? 512 : 0 : FREE, "now", 3);
            }
        }
    }

    /** NONE, doing nothing, if it can't be: no such EDGE, one from elsewhere, one whose CONDITIONS don't hold. */
    private static void takesRefused() {
        for (int edge : new int[] {Integer.MIN_VALUE, -1, 0, 1, 2, 3, 13, 14, 31, 32, 100, Integer.MAX_VALUE}) {
            ClockReach x = Check.of(TEXT);
            x.graph(0, true);
            x.begin();
            x.waits(255);
            List<Long> before = Calls.seen(x);
            Calls.due(x, -1, "takes", edge);
            Check.same("takes(" + edge + ") does nothing", Calls.seen(x).equals(before), true);
        }
    }

    /** NONE without a PLAY: none has begun, a refused one, behind a text, behind ACTS. */
    private static void nowWithout() {
        ClockReach x = Check.of(TEXT);
        noPlay(x);
        x.graph(0, true);
        noPlay(x);
        x.begin();
        Check.tape(x, TEXT);
        x.automaton();
        noPlay(x);
        x.begin();
        x.number(0, 0, 2);
        noPlay(x);
        x.begin();
        x.undo();
        noPlay(x);
        x.begin();
        x.urgent(2, true);
        noPlay(x);
    }

    private static void nowWhats() {
        ClockReach x = Check.of(TEXT);
        x.begin();
        for (int what : new int[] {Integer.MIN_VALUE, -1, 4, 5, Integer.MAX_VALUE}) {
            Calls.due(x, -1, "now", what);
        }
        int[] now = {0, 0, 0, 767};
        for (int what = 0; what < 4; what++) {
            Calls.due(x, now[what], "now", what);
        }
        // fourteen EDGES, as bits
        x = Check.of("place a;" + "edge a a;".repeat(14));
        x.begin();
        Calls.due(x, (1 << 14) - 1, "now", 2);
        Calls.due(x, 0, "takes", 13);
        Calls.due(x, -1, "takes", 14);
    }

    /** How long one may wait at most (Integer.MAX_VALUE: as long as one likes): the tightest CONDITION. */
    private static void longestWaits() {
        ClockReach x = Check.of("clock x;clock y;place a;place b until x<=5 until y<3 until y<=3;place c until x<=20;"
            + "edge a b reset x;edge b c;edge a b reset y;");
        x.begin();
        Calls.due(x, FREE, "now", 3);
        x.waits(256);
        Calls.due(x, 1, "takes", 0);
        Calls.due(x, 511, "now", 3);
        x.begin();
        x.waits(1279);
        Calls.due(x, 1, "takes", 2);
        Calls.due(x, 1, "now", 3);
        Calls.due(x, 2, "takes", 1);
        Calls.due(x, 5120 - 1279, "now", 3);
    }

    /** NoSuchElementException: there is no PLAY, no such CLOCK. */
    private static void clockThrows() {
        for (int clocks = 0; clocks <= 3; clocks++) {
            StringBuilder text = new StringBuilder();
            for (int c = 0; c < clocks; c++) {
                text.append("clock ").append((char) ('x' + c)).append(";");
            }
            ClockReach x = Check.of(text + "place a;edge a a;");
            x.graph(0, true);
            int[] asked = {Integer.MIN_VALUE, -2, -1, 0, 1, 2, 3, 4, 100, Integer.MAX_VALUE};
            for (int clock : asked) {
                Calls.due(x, Calls.THROWS, "clock", clock);
            }
            x.begin();
            x.waits(9);
            for (int clock : asked) {
                Calls.due(x, clock >= 0 && clock < clocks ? 9 : Calls.THROWS, "clock", clock);
            }
            // the exception leaves the PLAY as it was
            Calls.due(x, 0, "now", 0);
            Calls.due(x, 9, "now", 1);
            Calls.due(x, 0, "takes", 0);
        }
    }

    /** CLOCKS go on alike; those that an EDGE sets back are 0 then, others stay. */
    private static void clocksGoOnAlike() {
        ClockReach x = Check.of("clock x;clock y;clock z;place a;edge a a reset x reset z;edge a a reset y;edge a a;");
        x.begin();
        x.waits(100);
        x.takes(0);
        x.waits(20);
        x.takes(1);
        x.waits(3);
        x.takes(2);
        int[] clocks = {23, 3, 23};
        for (int c = 0; c < 3; c++) {
            Calls.due(x, clocks[c], "clock", c);
        }
        Calls.due(x, 123, "now", 1);
    }

    /** False, and there is no PLAY, if there is no such STATE. */
    private static void replaysRefused() {
        for (int state : new int[] {Integer.MIN_VALUE, -1, 3, 4, 119, 120, Integer.MAX_VALUE}) {
            ClockReach x = Check.of(TEXT);
            Calls.due(x, 0, "replays", 0);
            x.begin();
            Calls.due(x, 0, "replays", 0);
            noPlay(x);
            Calls.due(x, 3, "graph", 0, 1);
            x.begin();
            Calls.due(x, 0, "replays", state);
            noPlay(x);
            Calls.due(x, 3, "about", 5);
        }
    }

    /** By its TIMES, to each STATE; the first one has no EDGES. */
    private static void replaysEveryState() {
        for (int way = 0; way <= 2; way++) {
            ClockReach x = Check.of(TEXT);
            int states = x.graph(way, true);
            for (int s = 0; s < states; s++) {
                Calls.due(x, 1, "replays", s);
                Calls.due(x, x.state(s, 0), "now", 0);
                int last = x.state(s, 3) - 1;
                Calls.due(x, last < 0 ? 0 : x.when(s, last), "now", 1);
                for (int c = 0; c < 2; c++) {
                    Calls.due(x, last < 0 ? 0 : x.then(s, last, c), "clock", c);
                }
            }
        }
        // a RUN of 119 EDGES
        ClockReach x = Check.of("clock x;clock y;place a until x<=20;edge a a when x=20 reset x;");
        x.graph(0, true);
        Calls.due(x, 1, "replays", 119);
        Calls.due(x, 119 * 5120, "now", 1);
        Calls.due(x, 119 * 5120, "clock", 1);
        Calls.due(x, 0, "clock", 0);
        Calls.due(x, 1, "waits", 5120);
        Calls.due(x, 0, "takes", 0);
    }
}
