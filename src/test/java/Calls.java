import java.lang.reflect.InvocationTargetException;
import java.lang.reflect.Method;
import java.util.ArrayList;
import java.util.List;
import java.util.NoSuchElementException;

/** Calls told by their names, so that tests can go through tables of them; and all that can be seen of an object. */
final class Calls {
    /** The answer of a call that throws NoSuchElementException. */
    static final long THROWS = Long.MIN_VALUE;

    private Calls() {
    }

    static Method named(String name) {
        for (Method method : ClockReach.class.getMethods()) {
            if (method.getName().equals(name) && method.getDeclaringClass() == ClockReach.class) {
                return method;
            }
        }
        throw new IllegalArgumentException(name);
    }

    /** Arguments that are boolean are told as 1 or 0, and so is such an answer. */
    static long call(ClockReach x, String name, int... args) {
        Method method = named(name);
        Object[] given = new Object[args.length];
        for (int i = 0; i < args.length; i++) {
            given[i] = method.getParameterTypes()[i] == boolean.class ? (Object) (args[i] != 0) : (Object) args[i];
        }
        try {
            Object answer = method.invoke(x, given);
            return answer instanceof Boolean is ? (is ? 1 : 0) : (Integer) answer;
        } catch (InvocationTargetException thrown) {
            if (thrown.getCause() instanceof NoSuchElementException && name.equals("clock")) {
                return THROWS;
            }
            Check.same(told(name, args) + " throws " + thrown.getCause(), 1, 0);
            return Long.MAX_VALUE;
        } catch (IllegalAccessException hidden) {
            throw new IllegalStateException(hidden);
        }
    }

    static String told(String name, int... args) {
        StringBuilder text = new StringBuilder(name).append("(");
        for (int i = 0; i < args.length; i++) {
            text.append(i == 0 ? "" : ", ").append(args[i]);
        }
        return text.append(")").toString();
    }

    static void due(ClockReach x, long want, String name, int... args) {
        Check.same(told(name, args), call(x, name, args), want);
    }

    /** Some 200 answers of a small AUTOMATON: what was told, ACTS, the GRAPH, the PLAY; not the TAPE, not the FAULT. */
    static List<Long> seen(ClockReach x) {
        List<Long> seen = new ArrayList<>();
        for (int what = 0; what <= 8; what++) {
            seen.add((long) x.about(what));
        }
        ask(seen, x, "place", x.about(1), 4);
        ask(seen, x, "edge", x.about(2), 4);
        ask(seen, x, "limit", x.about(0), 3);
        ask(seen, x, "state", x.about(5), 6);
        for (int host = 0; host < x.about(2) + x.about(1); host++) {
            int edge = host < x.about(2) ? host : 100 + host - x.about(2);
            for (int k = 0; x.condition(edge, k, 2) >= 0; k++) {
                seen.add((long) x.condition(edge, k, 2));
            }
        }
        for (int s = 0; s < x.about(5); s++) {
            for (int c = 0; c < x.about(0); c++) {
                seen.add((long) x.bound(s, c, -1, 0));
                seen.add((long) x.bound(s, -1, c, 0));
            }
        }
        seen.add((long) x.reached());
        seen.add((long) x.taken());
        for (int what = 0; what < 4; what++) {
            seen.add((long) x.now(what));
        }
        for (int c = 0; c < x.about(0); c++) {
            seen.add(call(x, "clock", c));
        }
        return seen;
    }

    private static void ask(List<Long> seen, ClockReach x, String name, int count, int whats) {
        for (int i = 0; i < count; i++) {
            for (int what = 0; what < whats; what++) {
                seen.add(call(x, name, i, what));
            }
        }
    }
}
