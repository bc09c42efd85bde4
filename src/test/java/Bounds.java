/** Zones told most plainly: a number and a strictness for each pair, closed anew behind every change. */
final class Bounds {
    static final int FREE = 1 << 28;
    final int size;
    final int[][] number;
    final boolean[][] strict;

    Bounds(int size) {
        this.size = size;
        number = new int[size][size];
        strict = new boolean[size][size];
    }

    static Bounds point(int[] values) {
        Bounds b = new Bounds(values.length);
        for (int i = 0; i < b.size; i++) {
            for (int j = 0; j < b.size; j++) {
                b.number[i][j] = values[i] - values[j];
            }
        }
        return b;
    }

    Bounds copy() {
        Bounds b = new Bounds(size);
        for (int i = 0; i < size; i++) {
            b.number[i] = number[i].clone();
            b.strict[i] = strict[i].clone();
        }
        return b;
    }

    static boolean tighter(int n, boolean s, int n2, boolean s2) {
        return n < n2 || n == n2 && s && !s2;
    }

    private void put(int i, int j, int n, boolean s) {
        if (tighter(n, s, number[i][j], strict[i][j])) {
            number[i][j] = n;
            strict[i][j] = s;
        }
    }

    /** Whether there is any value left. */
    boolean close() {
        for (int k = 0; k < size; k++) {
            for (int i = 0; i < size; i++) {
                for (int j = 0; j < size; j++) {
                    if (number[i][k] != FREE && number[k][j] != FREE) {
                        put(i, j, number[i][k] + number[k][j], strict[i][k] || strict[k][j]);
                    }
                }
            }
        }
        for (int i = 0; i < size; i++) {
            if (tighter(number[i][i], strict[i][i], 0, false)) {
                return false;
            }
        }
        return true;
    }

    boolean meet(Iterable<int[]> conditions) {
        for (int[] condition : conditions) {
            int c = condition[0] + 1;
            int how = condition[1];
            if (how <= 2) {
                put(c, 0, condition[2], how == 0);
            }
            if (how >= 2) {
                put(0, c, -condition[2], how == 4);
            }
        }
        return close();
    }

    void reset(int clock) {
        int c = clock + 1;
        for (int j = 0; j < size; j++) {
            if (j != c) {
                number[c][j] = number[0][j];
                strict[c][j] = strict[0][j];
                number[j][c] = number[j][0];
                strict[j][c] = strict[j][0];
            }
        }
        close();
    }

    void delay() {
        for (int i = 1; i < size; i++) {
            number[i][0] = FREE;
            strict[i][0] = false;
        }
        close();
    }

    void forget(int[] high, int[] low) {
        for (int i = 0; i < size; i++) {
            for (int j = 0; j < size; j++) {
                if (i != j && tighter(high[i], false, number[i][j], strict[i][j])) {
                    number[i][j] = FREE;
                    strict[i][j] = false;
                } else if (i != j && tighter(number[i][j], strict[i][j], -low[j], true)) {
                    number[i][j] = -low[j];
                    strict[i][j] = true;
                }
            }
        }
        close();
    }

    boolean hasAll(Bounds other) {
        for (int i = 0; i < size; i++) {
            for (int j = 0; j < size; j++) {
                if (tighter(number[i][j], strict[i][j], other.number[i][j], other.strict[i][j])) {
                    return false;
                }
            }
        }
        return true;
    }

    /** Values in parts of 1 / scale, without the zero. */
    boolean has(long[] values, long scale) {
        for (int i = 0; i < size; i++) {
            for (int j = 0; j < size; j++) {
                long less = (i == 0 ? 0 : values[i - 1]) - (j == 0 ? 0 : values[j - 1]);
                long most = number[i][j] * scale;
                if (number[i][j] != FREE && (less > most || less == most && strict[i][j])) {
                    return false;
                }
            }
        }
        return true;
    }
}
