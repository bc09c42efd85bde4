import java.util.List;

/** Promises 1 to 10, each sentence that names a boundary case by itself. A ^ marks where a FAULT is due. */
public final class TextBoundsTest {
    private static final String PLACE = "clock x;place a";
    private static final String EDGE = "clock x;clock y;clock z;place a;edge a a";

    public static void main(String[] args) {
        newObject();
        feedTo900();
        feedRefused();
        feedHighestFirst();
        endWithin();
        endRefused();
        emptyTape();
        tapeEmptiesAtFaults();
        words();
        longestTokens();
        numbers();
        letterBehindDigit();
        everyByte();
        signs();
        clocks();
        places();
        edges();
        starts();
        untils();
        whens();
        resets();
        names();
        leastOfTwo();
        firstByPlace();
        atTheEnd();
        faultLeavesAll();
        faultOfTheLatest();
        whats();
        Check.finish("TextBoundsTest");
    }

    /** No CLOCKS, no PLACES (nor a GRAPH, a PLAY): every call on a new object. */
    private static void newObject() {
        ClockReach x = new ClockReach();
        int[] about = {0, 0, 0, -1, 0, -1, -1, -1, 0, 0};
        for (int what = 0; what < about.length; what++) {
            Calls.due(x, about[what], "about", what);
        }
        Calls.due(x, 0, "fault", 0);
        Calls.due(x, -1, "fault", 1);
        String[] asked = {"place", "edge", "limit", "state", "within", "overlap", "avoids", "run", "when", "spans", "soonest"};
        for (String name : asked) {
            Calls.due(x, -1, name, 0, 0);
        }
        for (String name : new String[] {"first", "covered", "points", "takes", "now"}) {
            Calls.due(x, -1, name, 0);
        }
        for (String name : new String[] {"reached", "taken", "begin"}) {
            Calls.due(x, -1, name);
        }
        Calls.due(x, -1, "condition", 0, 0, 0);
        Calls.due(x, -1, "condition", 100, 0, 0);
        Calls.due(x, -1, "number", 0, 0, 1);
        Calls.due(x, -1, "number", 100, 0, 1);
        Calls.due(x, 0, "urgent", 0, 1);
        Calls.due(x, 0, "undo");
        Calls.due(x, -1, "graph", 0, 0);
        Calls.due(x, Integer.MIN_VALUE, "bound", 0, -1, -1, 0);
        Calls.due(x, -1, "has", 0, 0, 0, 0);
        Calls.due(x, 0, "rings");
        Calls.due(x, -1, "from", 0, 0, 0, 0, 0);
        Calls.due(x, -1, "then", 0, 0, 0);
        Calls.due(x, -1, "tells", -1, -1, -1, -1, -1, 0);
        Calls.due(x, -1, "latest", 0, 0, 0);
        Calls.due(x, -1, "lets", 0, 0, 0, 0);
        Calls.due(x, 0, "waits", 0);
        Calls.due(x, Calls.THROWS, "clock", 0);
        Calls.due(x, 0, "replays", 0);
        Calls.due(x, 0, "end", 0);
    }

    /** How many there are: 20 more each time, up to 900 just. */
    private static void feedTo900() {
        ClockReach x = new ClockReach();
        for (int bytes = 20; bytes <= 900; bytes += 20) {
            Check.same("feed to " + bytes, x.feed(0, 0, 0, 0, 0), bytes);
            Check.same("bytes", x.about(9), bytes);
        }
        Check.same("feed to 920", x.feed(0, 0, 0, 0, 0), -1);
    }

    /** NONE, and nothing comes, if there would be more than 900: from 881 bytes on. */
    private static void feedRefused() {
        StringBuilder text = new StringBuilder("place abc;");
        while (text.length() < 895) {
            text.append(text.length() % 90 == 89 ? '\n' : ' ');
        }
        text.append("start");
        for (int bytes = 880; bytes <= 900; bytes++) {
            ClockReach x = new ClockReach();
            Check.tape(x, text.toString());
            Check.same("900 bytes", x.about(9), 900);
            Check.same("end", x.end(bytes), bytes);
            boolean room = bytes == 880;
            Check.same("feed behind " + bytes, x.feed(-1, 0x41414141, 0, 0x3b3b3b3b, 0x7a7a7a7a), room ? 900 : -1);
            Check.same("bytes behind it", x.about(9), room ? 900 : bytes);
            Check.same("what there was is read", x.automaton(), !room && bytes <= 895 ? 1 : -1);
            Check.same("its FAULT", x.fault(0), room ? 1 : bytes <= 895 ? 0 : 2);
            Check.same("its place", x.fault(1), room ? 880 : bytes <= 895 ? -1 : bytes == 900 ? 900 : 895);
        }
    }

    /** Of each number the highest byte first, the numbers in their order; bytes above 127 are no TOKENS. */
    private static void feedHighestFirst() {
        ClockReach x = new ClockReach();
        // "plac" "e a;" "plac" "e b;" and a byte 255 with three blanks
        Check.same("feed", x.feed(0x706c6163, 0x6520613b, 0x706c6163, 0x6520623b, 0xff202020), 20);
        Check.same("automaton", x.automaton(), -1);
        Check.same("FAULT", x.fault(0), 1);
        Check.same("place", x.fault(1), 16);
        x.feed(0x706c6163, 0x6520613b, 0x706c6163, 0x6520623b, 0x20202080);
        Check.same("automaton", x.automaton(), -1);
        Check.same("place", x.fault(1), 19);
        x.feed(0x706c6163, 0x6520613b, 0x706c6163, 0x6520623b, 0x20200a20);
        Check.same("automaton", x.automaton(), 2);
        x.feed(Integer.MIN_VALUE, Integer.MAX_VALUE, -1, 0, 1);
        Check.same("automaton", x.automaton(), -1);
        Check.same("place", x.fault(1), 0);
    }

    /** The TAPE has its first n bytes: n, from 0 to all that there are. */
    private static void endWithin() {
        ClockReach x = new ClockReach();
        Check.same("end(0) of an empty one", x.end(0), 0);
        Check.tape(x, "place a;place b;place c;");
        Check.same("end of all", x.end(24), 24);
        Check.same("end(16)", x.end(16), 16);
        Check.same("end(24) now", x.end(24), -1);
        // what comes next comes behind the first n
        Check.tape(x, "place d;");
        Check.same("bytes", x.about(9), 24);
        Check.same("automaton", x.automaton(), 3);
        Check.tape(x, "place a;place b;");
        Check.same("end(0)", x.end(0), 0);
        Check.same("automaton", x.automaton(), -1);
        Check.same("FAULT", x.fault(0), 6);
    }

    /** NONE, doing nothing, if it has not so many, or n is below 0. */
    private static void endRefused() {
        int[] refused = {-1, -2, Integer.MIN_VALUE, 17, 18, 20, 900, 901, Integer.MAX_VALUE};
        for (int n : refused) {
            ClockReach x = new ClockReach();
            Check.tape(x, "place a;place b;");
            Check.same("end(" + n + ")", x.end(n), -1);
            Check.same("bytes behind end(" + n + ")", x.about(9), 16);
            Check.same("automaton behind end(" + n + ")", x.automaton(), 2);
            Check.same("end(" + n + ") of an empty TAPE", x.end(n), -1);
        }
    }

    private static void emptyTape() {
        Check.faulty(6, "^");
        ClockReach x = Check.of("place a;");
        Check.same("automaton of an empty TAPE", x.automaton(), -1);
        Check.same("FAULT", x.fault(0), 6);
        Check.same("its place", x.fault(1), 0);
        Check.same("what was told stays", x.about(1), 1);
    }

    /** Empty then, also at a FAULT: what is fed next is a text by itself. */
    private static void tapeEmptiesAtFaults() {
        ClockReach x = new ClockReach();
        Check.tape(x, "place a;nonsense");
        Check.same("automaton", x.automaton(), -1);
        Check.same("bytes", x.about(9), 0);
        Check.tape(x, "place b;");
        Check.same("automaton", x.automaton(), 1);
        Check.same("bytes", x.about(9), 0);
        Check.same("end(1)", x.end(1), -1);
    }

    /** Words (a .. z, 6 at most). */
    private static void words() {
        Check.fine("clock abcdef;place zyxwvu;start zyxwvu;edge zyxwvu zyxwvu when abcdef<1 reset abcdef;");
        Check.faulty(1, "clock ^abcdefg;place a;");
        Check.faulty(1, "clock x;place ^abcdefg;");
        Check.faulty(1, "place a;start ^aaaaaaa;");
        Check.faulty(1, "place a;edge ^aaaaaaa a;");
        Check.faulty(1, "place a;edge a ^aaaaaaa;");
        Check.faulty(1, "place a;^edgeaaa a;");
        Check.faulty(1, "place a ^urgents;");
        Check.faulty(1, "place ^abcdefghijklmnopqrstuvwxyzabcdefghijklmnopqrstuvwxyz;");
        Check.faulty(2, "^clocks x;place a;");
        Check.faulty(2, "place a ^urgen;");
        // NAMES are told apart by all of their letters, and words that begin as others do are NAMES
        Check.fine("place a;place aa;place aaa;place aaaa;place aaaaa;place aaaaaa;place aaaaab;place baaaaa;");
        Check.fine("place clocks;place plac;place urgen;place untils;place starts;place edges;place whens;place resets;");
    }

    /** Each is as long as can be; blanks part them or not. */
    private static void longestTokens() {
        Check.faulty(2, "^placea;");
        Check.faulty(2, "^clockx;place a;");
        Check.faulty(1, "place ^aurgent;");
        Check.faulty(3, "place a;edge ^aa;");
        Check.fine("place a;edge a a;");
        Check.fine("place a;edge\na\na\n;");
        Check.fine("clock x;place a until x<5;edge a a when x<5;");
        Check.fine("clock x ; place a until x < 5 ; edge a a when x < 5 ;");
        Check.fine("\n\n clock x;place a until x<\n=\n5\n;");
        // 12 is one number, 1 2 are two
        Check.fine(PLACE + " until x<12;");
        Check.faulty(2, PLACE + " until x<1 ^2;");
        Check.faulty(2, PLACE + " until x<1\n^2;");
    }

    /** Numbers (1 to 3 digits); N 0 .. 20. */
    private static void numbers() {
        for (int n = 0; n <= 999; n++) {
            String[] told = n < 10 ? new String[] {"" + n, "0" + n, "00" + n}
                : n < 100 ? new String[] {"" + n, "0" + n} : new String[] {"" + n};
            for (String number : told) {
                if (n <= 20) {
                    Check.fine(PLACE + " until x<" + number + ";edge a a when x>" + number + ";");
                } else {
                    Check.faulty(4, PLACE + " until x<^" + number + ";");
                    Check.faulty(4, PLACE + ";edge a a when x>=^" + number + ";");
                }
            }
            Check.faulty(1, PLACE + " until x<=^" + String.format("%04d", n) + ";");
        }
        Check.faulty(1, PLACE + " until x<^0000;");
        Check.faulty(1, PLACE + " until x<^0020;");
        Check.faulty(1, PLACE + " until x<^1000;");
        Check.faulty(1, PLACE + " until x<^99999999999999999999;");
        ClockReach x = Check.of(PLACE + " until x<020;edge a a when x=000 when x>07;");
        Check.same("020", x.condition(100, 0, 2), 20);
        Check.same("000", x.condition(0, 0, 2), 0);
        Check.same("07", x.condition(0, 1, 2), 7);
    }

    /** No letter directly behind a digit. */
    private static void letterBehindDigit() {
        Check.faulty(1, PLACE + " until x<^5a;");
        Check.faulty(1, PLACE + " until x<^5z;");
        Check.faulty(1, PLACE + " until x<^5until x<6;");
        Check.fine(PLACE + " until x<5 until x<6;");
        Check.fine(PLACE + " until x<5\nuntil x<6;");
        Check.faulty(1, PLACE + " until x<^20a;");
        Check.faulty(1, PLACE + " until x<^21a;");
        Check.faulty(1, PLACE + " until x<^123a;");
        Check.faulty(1, PLACE + " until x<^1234a;");
        Check.faulty(1, "place ^5a;");
        Check.faulty(1, "^1a");
        // a digit behind a letter is a TOKEN by itself, and a sign, a blank or another byte is no letter
        Check.faulty(2, "place a^5;");
        Check.faulty(2, PLACE + " until x^5;");
        Check.faulty(1, PLACE + " until x<5^A;");
        Check.faulty(2, PLACE + " until x<5^<;");
    }

    /** Every byte at the begin of a line: blanks are nothing, TOKENS can't stand there, all else is none. */
    private static void everyByte() {
        for (int b = 0; b < 256; b++) {
            String sign = String.valueOf((char) b);
            boolean blank = b == 32 || b == 10;
            boolean token = b >= 'a' && b <= 'z' || b >= '0' && b <= '9' || b == '<' || b == '=' || b == '>' || b == ';';
            ClockReach x = new ClockReach();
            Check.tape(x, "place a;" + sign);
            Check.same("automaton with byte " + b, x.automaton(), blank ? 1 : -1);
            Check.same("FAULT of byte " + b, x.fault(0), blank ? 0 : token ? 2 : 1);
            Check.same("place of byte " + b, x.fault(1), blank ? -1 : 8);
            Check.tape(x, "place" + sign + "a;");
            boolean letter = b >= 'a' && b <= 'z';
            Check.same("automaton with byte " + b + " behind place", x.automaton(), blank ? 1 : -1);
            Check.same("place of byte " + b + " behind place", x.fault(1), blank ? -1 : letter ? 0 : 5);
            boolean digit = b >= '0' && b <= '9';
            Check.same("FAULT of byte " + b + " behind place", x.fault(0),
                blank ? 0 : letter || digit ? 1 : token ? 2 : 1);
        }
    }

    /** UPPER = < N | < = N | = N (until: not = N);  LOWER = > N | > = N. */
    private static void signs() {
        String[] signs = {"<", "<=", "=", ">=", ">", "< =", "> =", "<\n=", ">\n ="};
        int[] hows = {0, 1, 2, 3, 4, 1, 3, 1, 3};
        for (int i = 0; i < signs.length; i++) {
            ClockReach x = Check.of(PLACE + ";edge a a when x" + signs[i] + "7;");
            Check.same("how " + signs[i], x.condition(0, 0, 1), hows[i]);
            if (hows[i] < 2) {
                x = Check.of(PLACE + " until x" + signs[i] + "7;");
                Check.same("how " + signs[i], x.condition(100, 0, 1), hows[i]);
            } else {
                Check.faulty(2, PLACE + " until x^" + signs[i] + "7;");
            }
        }
        for (String two : new String[] {"<<", "<>", "=<", "==", "=>", "><", ">>"}) {
            Check.faulty(2, PLACE + ";edge a a when x" + two.charAt(0) + "^" + two.charAt(1) + "7;");
        }
        Check.faulty(2, PLACE + ";edge a a when x<=^=7;");
        Check.faulty(2, PLACE + ";edge a a when x>=^>7;");
        Check.faulty(2, PLACE + " until x<=^<7;");
        Check.faulty(2, PLACE + ";edge a a when x^7;");
        Check.faulty(2, PLACE + ";edge a a when x<^;");
        Check.faulty(2, PLACE + ";edge a a when x<=^;");
        Check.faulty(2, PLACE + ";edge a a when x<^x;");
    }

    private static String named(String word, int count) {
        StringBuilder text = new StringBuilder();
        for (int i = 0; i < count; i++) {
            text.append(word).append(" ").append(word.charAt(0)).append((char) ('a' + i)).append(";");
        }
        return text.toString();
    }

    /** A CLOCK, 3 at most, numbered from 0 on. */
    private static void clocks() {
        for (int count = 0; count <= 3; count++) {
            ClockReach x = Check.of(named("clock", count) + "place a;");
            Check.same("clocks", x.about(0), count);
        }
        Check.faulty(5, named("clock", 3) + "^clock x;place a;");
        Check.faulty(5, named("clock", 3) + "place a;^clock x;");
        Check.faulty(5, named("clock", 3) + "^clock");
        ClockReach x = Check.of("clock q;place a;clock p;edge a a when p<1 when q<2;clock o;edge a a reset o;");
        Check.same("p is the second", x.condition(0, 0, 0), 1);
        Check.same("q is the first", x.condition(0, 1, 0), 0);
        Check.same("o is the third", x.edge(1, 3), 4);
    }

    /** A PLACE, 8 at most, likewise. */
    private static void places() {
        for (int count = 1; count <= 8; count++) {
            ClockReach x = new ClockReach();
            Check.tape(x, named("place", count));
            Check.same("automaton of " + count + " places", x.automaton(), count);
            Check.same("places", x.about(1), count);
            Check.same("the last one", x.place(count - 1, 0), 0);
            Check.same("one behind", x.place(count, 0), -1);
        }
        Check.faulty(5, named("place", 8) + "^place x;");
        Check.faulty(5, named("place", 8) + "clock x;^place pa;");
        ClockReach x = Check.of(named("place", 8) + "start ph;edge ph pa;");
        Check.same("start", x.about(3), 7);
        Check.same("from", x.edge(0, 0), 7);
        Check.same("to", x.edge(0, 1), 0);
        Check.same("as bits", x.place(7, 2), 1);
    }

    /** An EDGE, 14 at most. */
    private static void edges() {
        for (int count = 0; count <= 14; count++) {
            ClockReach x = Check.of("place a;" + "edge a a;".repeat(count));
            Check.same("edges", x.about(2), count);
            Check.same("from it, as bits", x.place(0, 2), (1 << count) - 1);
            Check.same("to it, as bits", x.place(0, 3), (1 << count) - 1);
            Check.same("the last one", x.edge(count - 1, 0), count == 0 ? -1 : 0);
            Check.same("one behind", x.edge(count, 0), -1);
        }
        Check.faulty(5, "place a;" + "edge a a;".repeat(14) + "^edge a a;");
        Check.faulty(5, "place a;" + "edge a a;".repeat(14) + "^edge");
    }

    /** Once, the PLACE at which it begins (without: the first one). */
    private static void starts() {
        Check.same("without", Check.of("place a;place b;").about(3), 0);
        Check.same("the first", Check.of("place a;start a;place b;").about(3), 0);
        Check.same("the last", Check.of("place a;place b;start b;").about(3), 1);
        Check.faulty(5, "place a;start a;^start a;");
        Check.faulty(5, "place a;place b;start b;edge a b;^start a;");
        Check.faulty(3, "start ^a;place a;");
        Check.faulty(3, "place a;start ^b;place b;");
    }

    /** Its CONDITIONS (until), 3 at most: of each PLACE. */
    private static void untils() {
        for (int count = 0; count <= 3; count++) {
            ClockReach x = Check.of(PLACE + " until x<9".repeat(count) + ";place b" + " until x<8".repeat(3) + ";");
            Check.same("CONDITIONS", x.place(0, 1), count);
            Check.same("CONDITIONS", x.place(1, 1), 3);
            Check.same("of all", x.about(4), count + 3);
        }
        Check.faulty(5, PLACE + " until x<9".repeat(3) + " ^until x<9;");
        Check.faulty(5, PLACE + " until x<9".repeat(3) + " ^until");
        Check.faulty(5, PLACE + " until x<9;place b" + " until x<9".repeat(3) + " ^until x<9;");
        Check.faulty(5, PLACE + " urgent" + " until x<9".repeat(3) + " ^until x<9;");
    }

    /** Its CONDITIONS (when), 4 at most: of each EDGE. */
    private static void whens() {
        for (int count = 0; count <= 4; count++) {
            ClockReach x = Check.of(EDGE + " when x<9".repeat(count) + ";edge a a" + " when x>8".repeat(4) + ";");
            Check.same("CONDITIONS", x.edge(0, 2), count);
            Check.same("CONDITIONS", x.edge(1, 2), 4);
            Check.same("of all", x.about(4), count + 4);
        }
        Check.faulty(5, EDGE + " when x<9".repeat(4) + " ^when x<9;");
        Check.faulty(5, EDGE + " when x<9".repeat(4) + " ^when");
        Check.faulty(5, EDGE + " when x<9;edge a a" + " when x<9".repeat(4) + " ^when x<9;");
    }

    /** CLOCKS that it sets back to 0, each once; set back twice: at the second NAME. */
    private static void resets() {
        Check.faulty(5, EDGE + " reset x reset ^x;");
        Check.faulty(5, EDGE + " reset x reset y reset ^x;");
        Check.faulty(5, EDGE + " reset x reset y reset z reset ^z;");
        Check.faulty(5, EDGE + " reset y reset ^y");
        Check.fine(EDGE + " reset x;edge a a reset x;");
        Check.same("all three", Check.of(EDGE + " reset z reset y reset x;").edge(0, 3), 7);
        Check.same("none", Check.of(EDGE + ";").edge(0, 3), 0);
        Check.faulty(2, EDGE + " reset x ^y;");
        Check.faulty(2, EDGE + " reset x ^when x<1;");
        Check.faulty(2, EDGE + " reset^;");
    }

    /** A NAME told already, or (where it is used) that is not told, or of the other sort; all is told ahead of its use. */
    private static void names() {
        Check.faulty(3, "clock n;clock ^n;");
        Check.faulty(3, "clock n;place ^n;");
        Check.faulty(3, "place n;place ^n;");
        Check.faulty(3, "place n;clock ^n;");
        Check.faulty(3, "place n;clock abc;place abcd;clock ^abc;");
        Check.faulty(3, "clock x;place a;start ^x;");
        Check.faulty(3, "clock x;place a;edge ^x a;");
        Check.faulty(3, "clock x;place a;edge a ^x;");
        Check.faulty(3, "clock x;place a until ^a<1;");
        Check.faulty(3, "clock x;place a;edge a a when ^a<1;");
        Check.faulty(3, "clock x;place a;edge a a reset ^a;");
        Check.faulty(3, "place a;edge a ^b;place b;");
        Check.faulty(3, "place a until ^x<1;clock x;");
        Check.faulty(3, "place a;edge a a when ^x<1;clock x;");
        Check.faulty(3, "place a;edge a a reset ^x;clock x;");
        Check.faulty(2, "place ^urgent;");
        Check.faulty(2, "place a;start ^start;");
        Check.faulty(2, "clock x;place a until ^until<1;");
    }

    /** At one place the least. */
    private static void leastOfTwo() {
        // no TOKEN, where none such could stand anyway
        Check.faulty(1, "place a;^abcdefg;");
        Check.faulty(1, "place a;^1234;");
        Check.faulty(1, "place ^1234;");
        Check.faulty(1, PLACE + " until x^1a;");
        // a NAME that is told already, or is not told, where no NAME can stand
        Check.faulty(2, "place a;^a;");
        Check.faulty(2, "place a ^a;");
        Check.faulty(2, "place a ^b;");
        Check.faulty(2, PLACE + " until x<^b;");
        // a number above 20 where no number can stand
        Check.faulty(2, "place ^21;");
        Check.faulty(2, "place a;^21;");
        Check.faulty(2, PLACE + " until x^99;");
        // one too many where it can't stand
        Check.faulty(2, named("clock", 3) + "place ^clock;");
        Check.faulty(2, named("place", 8) + "start ^place;");
        Check.faulty(2, "place a;" + "edge a a;".repeat(14) + "start ^edge;");
        Check.faulty(2, "place a;start a ^start a;");
        Check.faulty(2, EDGE + " when x<9".repeat(4) + " reset x ^when x<9;");
        Check.faulty(2, EDGE + " ^until x<9;");
        Check.faulty(2, PLACE + " until x<9".repeat(3) + " ^when x<9;");
        // the text ends, and there is no PLACE
        Check.faulty(2, "clock^");
        Check.faulty(2, "clock x^");
        Check.faulty(2, "clock x;clock y  ^");
        Check.faulty(2, "place^");
    }

    /** The first by its place, whichever comes behind it. */
    private static void firstByPlace() {
        Check.faulty(5, named("clock", 3) + "^clock ca;abcdefgh");
        Check.faulty(3, "place a;place ^a;abcdefgh");
        Check.faulty(4, PLACE + " until x<^21 until y;abcdefgh");
        Check.faulty(2, "place a;^; abcdefgh");
        Check.faulty(1, "^abcdefgh; place a; place a;");
        Check.faulty(3, PLACE + " until ^y<99;");
        Check.faulty(3, "edge ^a b;");
        Check.faulty(2, "clock x;^;");
    }

    /** (At the end) there is no PLACE; the end: the text's length, with blanks behind. */
    private static void atTheEnd() {
        Check.faulty(6, "  \n ^");
        Check.faulty(6, "clock x;^");
        Check.faulty(6, "clock x;clock y;clock z;\n\n^");
        Check.faulty(2, "place a^");
        Check.faulty(2, "place a   ^");
        Check.faulty(2, "place a;edge a a\n^");
        Check.faulty(2, "place a;start^");
        Check.faulty(2, PLACE + " until x<1^");
        Check.faulty(2, PLACE + " until x<^");
        Check.faulty(1, "place ^abcdefg");
        Check.faulty(1, PLACE + " until x<^1234");
        Check.faulty(4, PLACE + " until x<^21");
        Check.faulty(3, "place a;place ^a");
        String full = "place a;" + " ".repeat(887) + "start";
        Check.same("900 bytes", full.length(), 900);
        Check.faulty(2, full + "^");
        Check.faulty(6, " ".repeat(900) + "^");
        Check.faulty(6, "clock x;" + "\n".repeat(892) + "^");
        Check.fine(" ".repeat(892) + "place a;");
    }

    /** NONE: a FAULT (all else stays). */
    private static void faultLeavesAll() {
        String[] faults = {"", "place", "place a;place a;", "clock x;place b until x<21;", "place q;start q;start q;",
            "clock p;clock q;clock r;place a urgent;place b urgent;place c;start b;edge a b when p>20;edge a a when p<21;",
            "place a;#", "clock x;"};
        for (String text : faults) {
            ClockReach x = Check.of("clock x;clock y;place a until x<=4;place b;edge a b when x>2 when y<9 reset x;start a;");
            x.number(0, 0, 3);
            x.graph(1, true);
            x.begin();
            x.waits(5);
            List<Long> before = Calls.seen(x);
            Check.tape(x, text);
            Check.same("automaton", x.automaton(), -1);
            Check.same("all else stays behind '" + text + "'", Calls.seen(x).equals(before), true);
            Check.same("the ACT can be undone", x.undo(), true);
            Check.same("it was the number", x.condition(0, 0, 2), 2);
        }
    }

    /** Of the latest automaton(): a FAULT goes with the next text, and stays with any other call. */
    private static void faultOfTheLatest() {
        ClockReach x = new ClockReach();
        Check.tape(x, "place a;x");
        x.automaton();
        Check.tape(x, "place a;place b;");
        x.graph(0, true);
        Check.same("FAULT", x.fault(0), 2);
        Check.same("place", x.fault(1), 8);
        x.automaton();
        Check.same("FAULT", x.fault(0), 0);
        Check.same("place", x.fault(1), -1);
        x.automaton();
        Check.same("FAULT", x.fault(0), 6);
        Check.same("place", x.fault(1), 0);
    }

    /** NONE if there is none such, or for another what, just below and just beyond. */
    private static void whats() {
        ClockReach x = Check.of("clock x;clock y;place a until x<1 until y<2;place b;edge a b when x<3 reset y;edge b b;");
        String[] names = {"fault", "about"};
        int[] most = {1, 9};
        for (int i = 0; i < names.length; i++) {
            Calls.due(x, -1, names[i], -1);
            Calls.due(x, -1, names[i], most[i] + 1);
        }
        String[] pairs = {"place", "edge", "limit"};
        int[] whats = {3, 3, 2};
        int[] counts = {2, 2, 2};
        for (int i = 0; i < pairs.length; i++) {
            for (int one = -1; one <= counts[i]; one++) {
                for (int what = -1; what <= whats[i] + 1; what++) {
                    boolean there = one >= 0 && one < counts[i] && what >= 0 && what <= whats[i];
                    String call = Calls.told(pairs[i], one, what) + " is NONE";
                    Check.same(call, Calls.call(x, pairs[i], one, what) == -1, !there);
                }
            }
        }
        int[] hosts = {-1, 0, 1, 2, 99, 100, 101, 102, 103};
        int[] conditions = {0, 1, 0, 0, 0, 2, 0, 0, 0};
        for (int i = 0; i < hosts.length; i++) {
            for (int k = -1; k <= 3; k++) {
                for (int what = -1; what <= 3; what++) {
                    boolean there = k >= 0 && k < conditions[i] && what >= 0 && what <= 2;
                    String call = Calls.told("condition", hosts[i], k, what) + " is NONE";
                    Check.same(call, x.condition(hosts[i], k, what) == -1, !there);
                }
            }
        }
    }
}
