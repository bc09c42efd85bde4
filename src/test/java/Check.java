/** What the tests share: feeding a text, counting wrong answers, ending with exit code 1 if there was one. */
final class Check {
    private static int looked = 0;
    private static int wrong = 0;

    private Check() {
    }

    static void same(String what, long got, long want) {
        looked++;
        if (got != want) {
            wrong++;
            if (wrong <= 40) {
                System.out.println(what + " answered " + got + ", due is " + want);
            }
        }
    }

    static void same(String what, boolean got, boolean want) {
        same(what, got ? 1 : 0, want ? 1 : 0);
    }

    /** Puts a text on the TAPE, with blanks behind it cut off again. */
    static void tape(ClockReach x, String text) {
        int before = x.about(9);
        for (int i = 0; i < text.length(); i += 20) {
            x.feed(four(text, i), four(text, i + 4), four(text, i + 8), four(text, i + 12), four(text, i + 16));
        }
        x.end(before + text.length());
    }

    static int four(String text, int at) {
        int number = 0;
        for (int i = at; i < at + 4; i++) {
            number = number << 8 | (i < text.length() ? text.charAt(i) & 255 : ' ');
        }
        return number;
    }

    static ClockReach of(String text) {
        ClockReach x = new ClockReach();
        tape(x, text);
        if (x.automaton() < 1) {
            same("the text '" + text + "' has a fault " + x.fault(0) + " at", x.fault(1), ClockReach.NONE);
        }
        return x;
    }

    /** A text with a FAULT, its place marked by a ^ that is not fed. */
    static void faulty(int fault, String marked) {
        int place = marked.indexOf('^');
        read(marked.substring(0, place) + marked.substring(place + 1), fault, place);
    }

    static void fine(String text) {
        read(text, 0, ClockReach.NONE);
    }

    private static void read(String text, int fault, int place) {
        ClockReach x = new ClockReach();
        tape(x, text);
        same("bytes of '" + text + "'", x.about(9), text.length());
        same("automaton() of '" + text + "' is NONE", x.automaton() == ClockReach.NONE, fault != 0);
        same("fault(0) of '" + text + "'", x.fault(0), fault);
        same("fault(1) of '" + text + "'", x.fault(1), place);
        same("bytes behind '" + text + "'", x.about(9), 0);
    }

    static void finish(String name) {
        System.out.println(name + ": " + looked + " answers looked at, " + wrong + " wrong");
        if (wrong != 0 || looked == 0) {
            System.exit(1);
        }
    }
}
