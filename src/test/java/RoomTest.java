import java.lang.management.ManagementFactory;
import java.util.NoSuchElementException;
import java.util.Random;

/** 512 calls on one object, with any arguments in any state: what they throw, what room they take, that they repeat. */
public final class RoomTest {
    private static final int CALLS = 512;
    private static final long BYTES_MOST = 1_000_000;
    private static final int[] ODD = {Integer.MIN_VALUE, Integer.MAX_VALUE, -100, -2, -1, 60, 61, 99, 107, 108, 119, 120,
        256, 900, 1000, 1001, 25600, 25601};

    public static void main(String[] args) {
        Random random = new Random(9);
        for (int i = 0; i < 1500; i++) {
            anyCalls(random.nextLong());
        }
        dearest();
        Check.finish("RoomTest");
    }

    /** Two objects, called alike, answer alike, and nothing but what the document names is thrown. */
    private static void anyCalls(long seed) {
        ClockReach one = new ClockReach();
        ClockReach other = new ClockReach();
        Random random = new Random(seed);
        Told told = Told.random(random, random.nextInt(4), 1 + random.nextInt(20));
        Told next = Told.random(random, random.nextInt(4), 1 + random.nextInt(20));
        Check.tape(one, told.text());
        Check.tape(other, told.text());
        int calls = 2 * (told.text().length() / 20 + 2);
        for (int i = 0; calls < CALLS; i++) {
            if (random.nextInt(150) == 0) {
                one.end(0);
                other.end(0);
                Check.tape(one, next.text());
                Check.tape(other, next.text());
                calls += next.text().length() / 20 + 3;
            }
            int which = i == 0 ? 2 : random.nextInt(41);
            int[] a = new int[6];
            for (int k = 0; k < 6; k++) {
                a[k] = random.nextInt(6) == 0 ? ODD[random.nextInt(ODD.length)] : random.nextInt(8);
            }
            if (which == 2 && one.about(9) == 0 || which < 2 && random.nextInt(5) > 0) {
                which = 13;
            }
            Check.same("call " + which, answer(one, which, a), answer(other, which, a));
            calls++;
        }
    }

    private static long answer(ClockReach x, int which, int[] a) {
        try {
            return which < 21 ? told(x, which, a) : asked(x, which, a);
        } catch (NoSuchElementException none) {
            Check.same("only clock throws", which, 39);
            return Long.MIN_VALUE;
        } catch (RuntimeException thrown) {
            Check.same("call " + which + " throws " + thrown, 1, 0);
            return Long.MIN_VALUE;
        }
    }

    private static long told(ClockReach x, int which, int[] a) {
        switch (which) {
            case 0: return x.feed(a[0], a[1], a[2], a[3], a[4]);
            case 1: return x.end(a[0]);
            case 2: return x.automaton();
            case 3: return x.fault(a[0]);
            case 4: return x.about(a[0]);
            case 5: return x.place(a[0], a[1]);
            case 6: return x.edge(a[0], a[1]);
            case 7: return x.condition(a[0], a[1], a[2]);
            case 8: return x.limit(a[0], a[1]);
            case 9: return x.number(a[0], a[1], a[2]);
            case 10: return x.urgent(a[0], a[1] > 3) ? 1 : 0;
            case 11: return x.undo() ? 1 : 0;
            case 12:
            case 13: return x.graph(a[0] % 4, a[1] > 3);
            case 14: return x.state(a[0], a[1]);
            case 15: return x.bound(a[0], a[1] % 4 - 1, a[2] % 4 - 1, a[3]);
            case 16: return x.within(a[0], a[1]);
            case 17: return x.has(a[0], a[1] * 100, a[2] * 100, a[3]);
            case 18: return x.first(a[0]);
            case 19: return x.reached();
            default: return x.taken();
        }
    }

    private static long asked(ClockReach x, int which, int[] a) {
        switch (which) {
            case 21: return x.overlap(a[0], a[1]);
            case 22: return x.covered(a[0]);
            case 23: return x.points(a[0]);
            case 24: return x.rings();
            case 25: return x.from(a[0], a[1], a[2], a[3], a[4]);
            case 26: return x.avoids(a[0], a[1]);
            case 27: return x.run(a[0], a[1]);
            case 28: return x.when(a[0], a[1]);
            case 29: return x.then(a[0], a[1], a[2]);
            case 30: return x.spans(a[0], a[1]);
            case 31: return x.tells(a[0], a[1], a[2], a[3], a[4], a[5]);
            case 32: return x.latest(a[0], a[1], a[2]);
            case 33: return x.soonest(a[0], a[1]);
            case 34: return x.lets(a[0], a[1], a[2], a[3]);
            case 35: return x.begin();
            case 36: return x.waits(a[0] * 50) ? 1 : 0;
            case 37: return x.takes(a[0]);
            case 38: return x.now(a[0]);
            case 39: return x.clock(a[0]);
            default: return x.replays(a[0]) ? 1 : 0;
        }
    }

    /** An object and 512 of its dearest calls stay far below the room of a run. */
    private static void dearest() {
        com.sun.management.ThreadMXBean threads = (com.sun.management.ThreadMXBean) ManagementFactory.getThreadMXBean();
        String text = "clock x;clock y;clock z;place a until x<=1;place b;"
            + "edge a a when x=1 reset x;edge a a when x=1 reset x reset y;edge a a when x=1 reset x reset z;"
            + "edge a b when y=20;edge a b when z=20;edge b b;";
        for (int round = 0; round < 3; round++) {
            long before = threads.getCurrentThreadAllocatedBytes();
            ClockReach x = new ClockReach();
            Check.tape(x, text);
            x.automaton();
            for (int i = 0; i < 80; i++) {
                x.number(3, 0, i % 2 == 0 ? 19 : 20);
                x.soonest(1, 0);
                x.graph(i % 3, i % 2 == 0);
                x.lets(3, 0, 1, 1);
                x.covered(i);
                x.replays(119);
            }
            long bytes = threads.getCurrentThreadAllocatedBytes() - before;
            Check.same("bytes taken, " + bytes + ", are few", bytes < BYTES_MOST, true);
        }
    }
}
