/** Promises 1 to 10: a new object, the TAPE, the text with its FAULTS, and what was told. */
public final class TextTest {
    private static final String HEAD = "clock x;place a;edge a a";

    public static void main(String[] args) {
        newObject();
        feeding();
        ending();
        reading();
        faultsOfTokens();
        faultsOfOrder();
        faultsOfNames();
        faultsOfNumbers();
        faultsOfCounts();
        faultsStayApart();
        told();
        conditions();
        limits();
        greatestText();
        oneBehindAnother();
        beyondTheEnd();
        Check.finish("TextTest");
    }

    private static void newObject() {
        ClockReach x = new ClockReach();
        int[] about = {0, 0, 0, -1, 0, -1, -1, -1, 0, 0, -1};
        for (int what = 0; what < about.length; what++) {
            Check.same("new about(" + what + ")", x.about(what), about[what]);
        }
        Check.same("new about(-1)", x.about(-1), -1);
        Check.same("new fault(0)", x.fault(0), 0);
        Check.same("new fault(1)", x.fault(1), -1);
        Check.same("new fault(2)", x.fault(2), -1);
        Check.same("new fault(-1)", x.fault(-1), -1);
        Check.same("new rings()", x.rings(), 0);
        Check.same("new reached()", x.reached(), -1);
        Check.same("new begin()", x.begin(), -1);
        Check.same("new now(0)", x.now(0), -1);
        Check.same("new graph", x.graph(0, true), -1);
        Check.same("NONE", ClockReach.NONE, -1);
    }

    private static void feeding() {
        ClockReach x = new ClockReach();
        // "plac" "e ab" "c;  " : the highest byte of each number comes first
        Check.same("feed", x.feed(0x706c6163, 0x65206162, 0x633b2020, 0x20202020, 0x20202020), 20);
        Check.same("about(9)", x.about(9), 20);
        Check.same("automaton", x.automaton(), 1);
        for (int i = 1; i <= 45; i++) {
            Check.same("feed " + i, x.feed(0x20202020, 0x20202020, 0x20202020, 0x20202020, 0x20202020), 20 * i);
        }
        Check.same("feed 46", x.feed(0, 0, 0, 0, 0), -1);
        Check.same("about(9) full", x.about(9), 900);
        Check.same("end(881)", x.end(881), 881);
        Check.same("feed to 901", x.feed(0, 0, 0, 0, 0), -1);
        Check.same("about(9) still", x.about(9), 881);
        Check.same("end(880)", x.end(880), 880);
        Check.same("feed to 900", x.feed(-1, -1, -1, -1, -1), 900);
        Check.same("automaton", x.automaton(), -1);
        Check.same("fault", x.fault(0), 1);
        Check.same("its place", x.fault(1), 880);
        fault("place a;" + (char) 228, 1, 8);
    }

    private static void ending() {
        ClockReach x = new ClockReach();
        Check.same("end(1) empty", x.end(1), -1);
        Check.same("end(0) empty", x.end(0), 0);
        Check.same("end(-1) empty", x.end(-1), -1);
        Check.tape(x, "place a;place b;");
        Check.same("about(9)", x.about(9), 16);
        Check.same("end(17)", x.end(17), -1);
        Check.same("end(MIN)", x.end(Integer.MIN_VALUE), -1);
        Check.same("end(MAX)", x.end(Integer.MAX_VALUE), -1);
        Check.same("about(9) stays", x.about(9), 16);
        Check.same("end(16)", x.end(16), 16);
        Check.same("end(8)", x.end(8), 8);
        Check.same("automaton", x.automaton(), 1);
        Check.same("the tape is empty", x.about(9), 0);
    }

    private static void reading() {
        ClockReach x = Check.of("place a;place b;place c;start b;edge a b;");
        Check.same("places", x.about(1), 3);
        Check.same("start", x.about(3), 1);
        x.graph(0, true);
        x.begin();
        x.urgent(0, true);
        x.graph(1, true);
        x.begin();
        Check.tape(x, "place a;place");
        Check.same("automaton with a FAULT", x.automaton(), -1);
        Check.same("fault(0)", x.fault(0), 2);
        Check.same("fault(1)", x.fault(1), 13);
        Check.same("fault(2)", x.fault(2), -1);
        Check.same("the tape is empty", x.about(9), 0);
        Check.same("all else stays: PLACES", x.about(1), 3);
        Check.same("all else stays: GRAPH", x.about(7), 1);
        Check.same("all else stays: ACTS", x.about(8), 1);
        Check.same("all else stays: PLAY", x.now(0), 1);
        Check.tape(x, "place d;");
        Check.same("automaton", x.automaton(), 1);
        Check.same("fault(0) is gone", x.fault(0), 0);
        Check.same("fault(1) is gone", x.fault(1), -1);
        Check.same("no GRAPH", x.about(5), -1);
        Check.same("no ACTS", x.about(8), 0);
        Check.same("no PLAY", x.now(0), -1);
        Check.same("nothing to undo", x.undo(), false);
        Check.same("start is the first", x.about(3), 0);
        Check.same("automaton of nothing", x.automaton(), -1);
        Check.same("fault", x.fault(0), 6);
        Check.same("still there", x.about(1), 1);
    }

    private static void fault(String text, int fault, int place) {
        ClockReach x = new ClockReach();
        Check.tape(x, text);
        int answer = x.automaton();
        Check.same("automaton() of '" + text + "' has a FAULT", answer == -1, fault != 0);
        Check.same("fault(0) of '" + text + "'", x.fault(0), fault);
        Check.same("fault(1) of '" + text + "'", x.fault(1), place);
    }

    private static void fine(String text) {
        fault(text, 0, -1);
    }

    private static void faultsOfTokens() {
        fault("clock abcdefg;", 1, 6);
        fine("clock abcdef;place ghijkl;");
        fault("clock X;", 1, 6);
        fault("place a;#", 1, 8);
        fault("place\ta;", 1, 5);
        fault("place a;\r", 1, 8);
        fault("place a;" + (char) 0, 1, 8);
        fault("place a;" + (char) 255, 1, 8);
        fine("\nplace\n\n  a\n;\n");
        fault("clock x;place a until x<0020;", 1, 24);
        fault("clock x;place a until x<5a;", 1, 24);
        fault("clock x;place a until x<1234a;", 1, 24);
        fault("clock x;place a until x<5until x<6;", 1, 24);
        fault("place 5x;", 1, 6);
        fault("place 12345;", 1, 6);
        fault("abcdefgh", 1, 0);
        fault("place a;12345678901234567890", 1, 8);
    }

    private static void faultsOfOrder() {
        fault("clock x", 2, 7);
        fault("clock x  ", 2, 9);
        fault("clock", 2, 5);
        fault("clock ;", 2, 6);
        fault("placea;", 2, 0);
        fault("place a;;", 2, 8);
        fault("place a;b", 2, 8);
        fault("place a;5", 2, 8);
        fault("place a;urgent", 2, 8);
        fault("place a;until", 2, 8);
        fault("place a", 2, 7);
        fault("place a  \n", 2, 10);
        fault("place a b;", 2, 8);
        fault("place 5;", 2, 6);
        fault("place a5;", 2, 7);
        fault("place a urgent urgent;", 2, 15);
        fault("place a;edge a;", 2, 14);
        fault("place a;edge a a a;", 2, 17);
        fault("place a;start;", 2, 13);
        fault("place a;start a a;", 2, 16);
        fault("clock x;place a until x<1 urgent;", 2, 26);
        fault("clock x;place a until x=1;", 2, 23);
        fault("clock x;place a until x>1;", 2, 23);
        fault("clock x;place a until x 1;", 2, 24);
        fault("clock x;place a until x<;", 2, 24);
        fault("clock x;place a until <1;", 2, 22);
        fault("clock x;place a until x;", 2, 23);
        fault("place a>", 2, 7);
        fault("place a<", 2, 7);
        fault("place a=", 2, 7);
        fault(HEAD + " when x;", 2, 31);
        fault(HEAD + " when x;5;", 2, 31);
        fault("clock x;place a when x<1;", 2, 16);
        fault("clock x;place a reset x;", 2, 16);
        fault(HEAD + " until x<1;", 2, 25);
        fault(HEAD + " when x==1;", 2, 32);
        fault(HEAD + " when x=<1;", 2, 32);
        fault(HEAD + " when x><1;", 2, 32);
        fault(HEAD + " when x<>1;", 2, 32);
        fault(HEAD + " when x<==1;", 2, 33);
        fault(HEAD + " when x<x;", 2, 32);
        fault(HEAD + " when x<", 2, 32);
        fault(HEAD + " reset x when x<1;", 2, 33);
        fault(HEAD + " when x<1 when x<1 when x<1 when x<1 reset x when x<1;", 2, 69);
        fault(HEAD + " reset;", 2, 30);
        fault(HEAD + " reset 1;", 2, 31);
        for (String word : new String[] {"clock", "place", "urgent", "until", "start", "edge", "when", "reset"}) {
            fault("clock " + word + ";", 2, 6);
            fault("place " + word + ";", 2, 6);
            fault("place a;start " + word + ";", 2, 14);
            fault("place a;edge " + word + " a;", 2, 13);
            fault("place a;edge a " + word + ";", 2, 15);
        }
    }

    private static void faultsOfNames() {
        fault("clock x;clock x;", 3, 14);
        fault("clock x;place x;", 3, 14);
        fault("place x;clock x;", 3, 14);
        fault("place x;place x;", 3, 14);
        fault("place a;start b;", 3, 14);
        fault("start a;place a;", 3, 6);
        fault("clock x;place a;start x;", 3, 22);
        fault("place a;edge a b;place b;", 3, 15);
        fault("place a;edge b b;", 3, 13);
        fault("clock x;place a;edge a x;", 3, 23);
        fault("clock x;place a;edge x a;", 3, 21);
        fault("place a until x<1;", 3, 14);
        fault("clock x;place a until a<1;", 3, 22);
        fault("clock x;place a until b<1;", 3, 22);
        fault(HEAD + " when a<1;", 3, 30);
        fault(HEAD + " when y<1;", 3, 30);
        fault(HEAD + " reset y;", 3, 31);
        fault(HEAD + " reset a;", 3, 31);
        fine("clock p;place clocks;start clocks;edge clocks clocks;");
    }

    private static void faultsOfNumbers() {
        fine("clock x;place a until x<0 until x<20 until x<=020;");
        fault("clock x;place a until x<21;", 4, 24);
        fault("clock x;place a until x< =999;", 4, 26);
        fault(HEAD + " when x=21;", 4, 32);
        fault(HEAD + " when x>100 when x;", 4, 32);
        fine(HEAD + " when x>=20 when x=000 when x>7 when x<=9;");
    }

    private static void faultsOfCounts() {
        fine("clock a;clock b;clock c;place p;");
        fault("clock a;clock b;clock c;clock d;place p;", 5, 24);
        fault("clock a;clock b;clock c;clock", 5, 24);
        fault("clock a;clock b;clock c;clock a;", 5, 24);
        StringBuilder places = new StringBuilder();
        for (char p = 'a'; p <= 'h'; p++) {
            places.append("place ").append(p).append(";");
        }
        fine(places.toString());
        fault(places + "place i;", 5, 64);
        fault(places + "place a;", 5, 64);
        StringBuilder edges = new StringBuilder("place a;");
        for (int e = 0; e < 14; e++) {
            edges.append("edge a a;");
        }
        fine(edges.toString());
        fault(edges + "edge a a;", 5, 134);
        fault("place a;start a;start a;", 5, 16);
        fault("place a;start a;start b;", 5, 16);
        fine("place a;edge a a;start a;place b;edge a b;");
        String untils = "clock x;place a until x<1 until x<1 until x<1";
        fine(untils + ";");
        fault(untils + " until x<1;", 5, 46);
        fault(untils + " until", 5, 46);
        String whens = HEAD + " when x<1 when x<1 when x<1 when x<1";
        fine(whens + ";");
        fault(whens + " when x<1;", 5, 61);
        fault(whens + " when y", 5, 61);
        fault(HEAD + " reset x reset x;", 5, 39);
        fine("clock x;clock y;clock z;place a;edge a a reset z reset x reset y;");
        fault("clock x;clock y;clock z;place a;edge a a reset z reset x reset y reset z;", 5, 71);
        fault("clock x;clock y;clock z;place a;edge a a reset z reset x reset y reset a;", 3, 71);
    }

    private static void faultsStayApart() {
        fault("", 6, 0);
        fault("   ", 6, 3);
        fault("clock x;", 6, 8);
        fault("clock x;\n\n", 6, 10);
        // the first by its place, whatever comes behind
        fault("clock x;clock x;abcdefgh", 3, 14);
        fault("place a;abcdefgh place a;", 1, 8);
        fault("clock x;place a until y<99;", 3, 22);
    }

    private static void told() {
        ClockReach x = Check.of("clock x;clock y;place a urgent until x<3 until y<=4;place b;place c;start c;"
            + "edge a b when x<1 reset y;edge b c reset x reset y;edge a c;edge c c;edge c a when x>2 when y=3;");
        int[] about = {2, 3, 5, 2, 5, -1, -1, -1, 0, 0};
        for (int what = 0; what < about.length; what++) {
            Check.same("about(" + what + ")", x.about(what), about[what]);
        }
        int[][] places = {{1, 2, 0b00101, 0b10000, -1}, {0, 0, 0b00010, 0b00001, -1}, {0, 0, 0b11000, 0b01110, -1}};
        for (int p = 0; p < 3; p++) {
            for (int what = 0; what < 5; what++) {
                Check.same("place(" + p + ", " + what + ")", x.place(p, what), places[p][what]);
            }
        }
        int[][] edges = {{0, 1, 1, 2, -1}, {1, 2, 0, 3, -1}, {0, 2, 0, 0, -1}, {2, 2, 0, 0, -1}, {2, 0, 2, 0, -1}};
        for (int e = 0; e < 5; e++) {
            for (int what = 0; what < 5; what++) {
                Check.same("edge(" + e + ", " + what + ")", x.edge(e, what), edges[e][what]);
            }
        }
        int[] others = {-1, 3, 5, 8, 14, 100, Integer.MIN_VALUE, Integer.MAX_VALUE};
        for (int other : others) {
            Check.same("place(" + other + ", 0)", x.place(other, 0), -1);
            if (other != 3) {
                Check.same("edge(" + other + ", 0)", x.edge(other, 0), -1);
            }
        }
        Check.same("place(0, -1)", x.place(0, -1), -1);
        Check.same("edge(0, -1)", x.edge(0, -1), -1);
        Check.same("about(3) is what start told", x.about(3), 2);
    }

    private static void conditions() {
        ClockReach x = Check.of("clock x;clock y;place a;place b until y<=0 until x<20 until y< =7;"
            + "edge a b when x<1 when x<=2 when y=3 when x>=4;edge b a when y>5;edge a a;");
        int[][] first = {{0, 0, 1}, {0, 1, 2}, {1, 2, 3}, {0, 3, 4}};
        int[][] until = {{1, 1, 0}, {0, 0, 20}, {1, 1, 7}};
        for (int what = 0; what < 3; what++) {
            for (int k = 0; k < 4; k++) {
                Check.same("condition(0, " + k + ", " + what + ")", x.condition(0, k, what), first[k][what]);
            }
            for (int k = 0; k < 3; k++) {
                Check.same("condition(101, " + k + ", " + what + ")", x.condition(101, k, what), until[k][what]);
            }
        }
        Check.same("condition(1, 0, 0)", x.condition(1, 0, 0), 1);
        Check.same("condition(1, 0, 1)", x.condition(1, 0, 1), 4);
        Check.same("condition(1, 0, 2)", x.condition(1, 0, 2), 5);
        int[][] wrong = {{0, 4, 0}, {0, -1, 0}, {0, 0, 3}, {0, 0, -1}, {1, 1, 0}, {2, 0, 0}, {3, 0, 0}, {-1, 0, 0},
            {99, 0, 0}, {100, 0, 0}, {101, 3, 0}, {101, -1, 0}, {101, 0, 3}, {102, 0, 0}, {114, 0, 0},
            {Integer.MIN_VALUE, 0, 0}, {Integer.MAX_VALUE, 0, 0}, {0, Integer.MAX_VALUE, 0}, {0, Integer.MIN_VALUE, 0}};
        for (int[] call : wrong) {
            Check.same("condition(" + call[0] + ", " + call[1] + ", " + call[2] + ")",
                x.condition(call[0], call[1], call[2]), -1);
        }
    }

    private static void limits() {
        ClockReach x = Check.of("clock x;clock y;clock z;place a until x<9;place b;"
            + "edge a b when x>=4 when y>6;edge b a when y=5 when x<=3;");
        int[][] limits = {{9, 4, 9}, {6, 6, 5}, {0, 0, 0}};
        for (int c = 0; c < 3; c++) {
            for (int what = 0; what < 3; what++) {
                Check.same("limit(" + c + ", " + what + ")", x.limit(c, what), limits[c][what]);
            }
            Check.same("limit(" + c + ", 3)", x.limit(c, 3), -1);
            Check.same("limit(" + c + ", -1)", x.limit(c, -1), -1);
        }
        Check.same("limit(3, 0)", x.limit(3, 0), -1);
        Check.same("limit(-1, 0)", x.limit(-1, 0), -1);
        x.number(100, 0, 1);
        Check.same("limit(0, 0) behind number", x.limit(0, 0), 4);
        Check.same("limit(0, 2) behind number", x.limit(0, 2), 3);
        x.undo();
        Check.same("limit(0, 0) behind undo", x.limit(0, 0), 9);
        Check.same("limit(1, 0) of two clocks", Check.of("clock x;place a;").limit(1, 0), -1);
    }

    /** All counts at their greatest in one text: 3 CLOCKS, 8 PLACES, 14 EDGES, as many bytes as there may be. */
    private static void greatestText() {
        StringBuilder text = new StringBuilder("clock x;clock y;clock z;");
        for (char p = 'a'; p <= 'h'; p++) {
            text.append("place ").append(p).append(p == 'h' ? " until x<1 until y<2 until z<3;" : ";");
        }
        for (int e = 0; e < 14; e++) {
            text.append("edge a h when x<1 when y=2 when z>3").append(e == 13 ? " when x>=4 reset x reset y reset z;" : ";");
        }
        while (text.length() < 900) {
            text.append(' ');
        }
        Check.same("bytes", text.length(), 900);
        ClockReach x = Check.of(text.toString());
        Check.same("clocks", x.about(0), 3);
        Check.same("places", x.about(1), 8);
        Check.same("edges", x.about(2), 14);
        Check.same("conditions", x.about(4), 3 + 14 * 3 + 1);
        Check.same("edges from a", x.place(0, 2), (1 << 14) - 1);
        Check.same("edges to h", x.place(7, 3), (1 << 14) - 1);
        Check.same("the last condition", x.condition(13, 3, 2), 4);
        Check.same("the last resets", x.edge(13, 3), 7);
        Check.same("until of the last place", x.condition(107, 2, 2), 3);
    }

    /** Nothing of a text stays behind when another one is read, nor of one with a FAULT. */
    private static void oneBehindAnother() {
        ClockReach x = new ClockReach();
        String full = "clock x;clock y;clock z;place a urgent until x<9 until z<20;place b urgent;start b;"
            + "edge a b when x>7 when y=8 when z>=19 reset x;edge b a;";
        for (int i = 0; i < 4; i++) {
            Check.tape(x, full);
            Check.same("the full text", x.automaton(), 2);
            Check.same("conditions", x.about(4), 5);
            Check.same("limit", x.limit(2, 0), 20);
            Check.tape(x, full + "edge");
            Check.same("the full text and a FAULT", x.automaton(), -1);
            Check.tape(x, i % 2 == 0 ? "clock p;clock q;clock r;place c;edge c c;" : full);
            x.automaton();
        }
        Check.tape(x, "clock p;clock q;clock r;place c;edge c c;edge c c when r<=3;");
        Check.same("the plain text", x.automaton(), 1);
        Check.same("start", x.about(3), 0);
        Check.same("conditions", x.about(4), 1);
        Check.same("urgent", x.place(0, 0), 0);
        Check.same("until", x.place(0, 1), 0);
        Check.same("when", x.edge(0, 2), 0);
        Check.same("resets", x.edge(0, 3), 0);
        int[] limits = {0, 0, 3};
        for (int c = 0; c < 3; c++) {
            Check.same("limit(" + c + ", 0)", x.limit(c, 0), limits[c]);
            Check.same("limit(" + c + ", 1)", x.limit(c, 1), 0);
            Check.same("limit(" + c + ", 2)", x.limit(c, 2), limits[c]);
        }
        x.number(1, 0, 1);
        Check.same("limit(2, 0) is less now", x.limit(2, 0), 1);
        Check.same("limit(2, 2) is less now", x.limit(2, 2), 1);
    }

    /** Bytes that were cut off, or are not there, do not count. */
    private static void beyondTheEnd() {
        ClockReach x = new ClockReach();
        Check.tape(x, "place abc;");
        x.end(7);
        Check.same("automaton", x.automaton(), -1);
        Check.same("fault", x.fault(0), 2);
        Check.same("its place", x.fault(1), 7);
        Check.tape(x, "clock x;place a until x<123;");
        x.end(26);
        Check.same("automaton", x.automaton(), -1);
        Check.same("fault", x.fault(0), 2);
        Check.same("its place", x.fault(1), 26);
        Check.tape(x, "clock x;place a until x<12b;");
        x.end(26);
        Check.same("automaton", x.automaton(), -1);
        Check.same("fault", x.fault(0), 2);
        for (char last : new char[] {'a', '7', ';', '<', ' '}) {
            StringBuilder text = new StringBuilder("clock x;place a;");
            while (text.length() < 899) {
                text.append(' ');
            }
            Check.tape(x, text.append(last).toString());
            Check.same("bytes", x.about(9), 900);
            Check.same("automaton", x.automaton(), last == ' ' ? 1 : -1);
            Check.same("fault", x.fault(0), last == ' ' ? 0 : 2);
            Check.same("its place", x.fault(1), last == ' ' ? -1 : 899);
        }
    }
}
