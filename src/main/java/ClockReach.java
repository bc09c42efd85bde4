import java.util.NoSuchElementException;

/** Automata with clocks, told as a text: what they can reach, how soon, and by which runs. */
public final class ClockReach {
    /** There is none. */
    public static final int NONE = -1;

    private static final int TAPE_MOST = 900;
    private static final int CLOCKS_MOST = 3;
    private static final int PLACES_MOST = 8;
    private static final int EDGES_MOST = 14;
    private static final int UNTILS_MOST = 3;
    private static final int WHENS_MOST = 4;
    private static final int NUMBER_MOST = 20;
    private static final int STATES_MOST = 120;
    private static final int SOON_STATES_MOST = 400;
    private static final int ACTS_MOST = 20;
    private static final int UNIT = 256;
    private static final int WAIT_MOST = 25600;
    private static final int BEGIN_UNITS_MOST = 60;
    private static final int SOON_UNITS_MOST = 60;
    private static final int LATEST_UNITS_MOST = 1000;
    private static final int POINT_MOST = 21;
    private static final int PLACE_CODE = 100;
    private static final int CAN_NOT_TELL = -2;

    private final int[] tape;
    private int taped;
    private final Reader reader;
    private Automaton model;
    private Automaton draft;
    private final History history;
    private final Graph shown;
    private boolean hasShown;
    private final Graph tried;
    private final Graph soon;
    private boolean soonStands;
    private final Remainder remainder;
    private final Timing timing;
    private final Play play;
    private final int[] beginUnits;
    private final int[] sample;

    public ClockReach() {
        tape = new int[TAPE_MOST];
        reader = new Reader();
        model = new Automaton();
        draft = new Automaton();
        history = new History();
        shown = new Graph(STATES_MOST, CLOCKS_MOST + 1);
        tried = new Graph(STATES_MOST, CLOCKS_MOST + 1);
        soon = new Graph(SOON_STATES_MOST, CLOCKS_MOST + 2);
        remainder = new Remainder();
        timing = new Timing();
        play = new Play();
        beginUnits = new int[CLOCKS_MOST + 2];
        sample = new int[CLOCKS_MOST + 1];
    }

    // ---- the text

    public int feed(int a, int b, int c, int d, int e) {
        if (taped + 20 > TAPE_MOST) {
            return NONE;
        }
        putBytes(a);
        putBytes(b);
        putBytes(c);
        putBytes(d);
        putBytes(e);
        return taped;
    }

    private void putBytes(int four) {
        for (int shift = 24; shift >= 0 && taped < TAPE_MOST; shift -= 8) {
            tape[taped] = (four >> shift) & 255;
            taped++;
        }
    }

    public int end(int n) {
        if (n < 0 || n > taped) {
            return NONE;
        }
        taped = n;
        return n;
    }

    public int automaton() {
        boolean whole = reader.reads(tape, taped, draft);
        taped = 0;
        if (!whole) {
            return NONE;
        }
        Automaton old = model;
        model = draft;
        draft = old;
        history.count = 0;
        dropViews();
        return model.places;
    }

    /** What was worked out of the AUTOMATON as it was does not hold for it as it is now. */
    private void dropViews() {
        hasShown = false;
        soonStands = false;
        play.on = false;
    }

    public int fault(int what) {
        switch (what) {
            case 0:
                return reader.fault;
            case 1:
                return reader.faultAt;
            default:
                return NONE;
        }
    }

    public int about(int what) {
        switch (what) {
            case 0:
                return model.clocks;
            case 1:
                return model.places;
            case 2:
                return model.edges;
            case 3:
                return model.start;
            case 4:
                return model.allConditions();
            case 5:
                return hasShown ? shown.count : NONE;
            case 6:
                return hasShown ? bit(shown.full) : NONE;
            case 7:
                return hasShown ? shown.way : NONE;
            case 8:
                return history.count;
            case 9:
                return taped;
            default:
                return NONE;
        }
    }

    private static int bit(boolean is) {
        return is ? 1 : 0;
    }

    public int place(int place, int what) {
        if (!isPlace(place)) {
            return NONE;
        }
        switch (what) {
            case 0:
                return bit(model.hurried[place]);
            case 1:
                return model.counts[Automaton.hostOfPlace(place)];
            case 2:
                return model.edgesWith(model.sources, place);
            case 3:
                return model.edgesWith(model.targets, place);
            default:
                return NONE;
        }
    }

    private boolean isPlace(int place) {
        return place >= 0 && place < model.places;
    }

    private boolean isEdge(int edge) {
        return edge >= 0 && edge < model.edges;
    }

    private boolean isClock(int clock) {
        return clock >= 0 && clock < model.clocks;
    }

    public int edge(int edge, int what) {
        if (!isEdge(edge)) {
            return NONE;
        }
        switch (what) {
            case 0:
                return model.sources[edge];
            case 1:
                return model.targets[edge];
            case 2:
                return model.counts[edge];
            case 3:
                return model.resets[edge];
            default:
                return NONE;
        }
    }

    public int condition(int edge, int k, int what) {
        int slot = slotOf(edge, k);
        if (slot == NONE) {
            return NONE;
        }
        switch (what) {
            case 0:
                return model.conditionClocks[slot];
            case 1:
                return model.hows[slot];
            case 2:
                return model.numbers[slot];
            default:
                return NONE;
        }
    }

    /** Where the k-th CONDITION of an EDGE, or of PLACE p as "EDGE" 100 + p, is held. */
    private int slotOf(int edge, int k) {
        int host = NONE;
        if (isEdge(edge)) {
            host = edge;
        } else if (edge >= PLACE_CODE && isPlace(edge - PLACE_CODE)) {
            host = Automaton.hostOfPlace(edge - PLACE_CODE);
        }
        if (host == NONE || k < 0 || k >= model.counts[host]) {
            return NONE;
        }
        return Automaton.slot(host, k);
    }

    public int limit(int clock, int what) {
        if (!isClock(clock)) {
            return NONE;
        }
        switch (what) {
            case 0:
                return model.greatest[clock + 1];
            case 1:
                return model.lower[clock + 1];
            case 2:
                return model.upper[clock + 1];
            default:
                return NONE;
        }
    }

    // ---- acts

    public int number(int edge, int k, int n) {
        int slot = slotOf(edge, k);
        if (slot == NONE || n < 0 || n > NUMBER_MOST) {
            return NONE;
        }
        int was = model.numbers[slot];
        if (was == n) {
            return NONE;
        }
        history.keep(slot, was);
        model.setNumber(slot, n);
        dropViews();
        return was;
    }

    public boolean urgent(int place, boolean is) {
        if (!isPlace(place) || model.hurried[place] == is) {
            return false;
        }
        history.keep(History.codeOfPlace(place), bit(!is));
        model.hurried[place] = is;
        dropViews();
        return true;
    }

    public boolean undo() {
        if (!history.takesBack(model)) {
            return false;
        }
        dropViews();
        return true;
    }

    // ---- the GRAPH

    public int graph(int way, boolean leaves) {
        if (way < 0 || way > 2 || model.places == 0) {
            return NONE;
        }
        shown.plan(model, way, leaves, model.clocks + 1);
        beginAtZero(shown);
        shown.grow(model);
        hasShown = true;
        return shown.count;
    }

    private void beginAtZero(Graph graph) {
        for (int i = 0; i < beginUnits.length; i++) {
            beginUnits[i] = 0;
        }
        graph.open(model, model.start, beginUnits);
    }

    private boolean isState(int state) {
        return hasShown && state >= 0 && state < shown.count;
    }

    public int state(int state, int what) {
        if (!isState(state)) {
            return NONE;
        }
        switch (what) {
            case 0:
                return shown.sites[state];
            case 1:
                return shown.parents[state];
            case 2:
                return shown.entries[state];
            case 3:
                return shown.depths[state];
            case 4:
                return shown.broods[state];
            case 5:
                return bit(isStuck(state));
            default:
                return NONE;
        }
    }

    /** Takes from the ZONE all values by which some EDGE can be taken, at once or behind a wait. */
    private boolean isStuck(int state) {
        int site = shown.sites[state];
        Zone whole = shown.zones[state];
        remainder.clear();
        for (int e = 0; e < model.edges; e++) {
            if (model.sources[e] == site) {
                remainder.addLeaving(model, e, whole.size);
            }
        }
        return remainder.leavesAny(whole);
    }

    public int bound(int state, int x, int y, int what) {
        boolean clocks = x >= NONE && x < model.clocks && y >= NONE && y < model.clocks;
        if (!isState(state) || !clocks || what < 0 || what > 1) {
            return Integer.MIN_VALUE;
        }
        int cell = shown.zones[state].cellOf(x + 1, y + 1);
        if (cell == Zone.FREE) {
            return Integer.MAX_VALUE;
        }
        return what == 0 ? cell >> 1 : cell & 1;
    }

    public int within(int state, int other) {
        if (!isState(state) || !isState(other)) {
            return NONE;
        }
        return bit(shown.zones[state].holdsAll(shown.zones[other]));
    }

    public int has(int state, int a, int b, int c) {
        if (!isState(state)) {
            return NONE;
        }
        sample[0] = 0;
        sample[1] = a;
        sample[2] = b;
        sample[3] = c;
        return bit(shown.zones[state].holdsTimes(sample));
    }

    public int first(int place) {
        if (!hasShown || !isPlace(place)) {
            return NONE;
        }
        return shown.firstAt(place);
    }

    public int reached() {
        return hasShown ? shown.allSites() : NONE;
    }

    public int taken() {
        return hasShown ? shown.crossed : NONE;
    }

    public int overlap(int state, int other) {
        if (!isState(state) || !isState(other)) {
            return NONE;
        }
        return bit(remainder.meet(shown.zones[state], shown.zones[other]));
    }

    public int covered(int state) {
        if (!isState(state)) {
            return NONE;
        }
        remainder.clear();
        for (int s = 0; s < shown.count; s++) {
            if (s != state && shown.sites[s] == shown.sites[state]) {
                remainder.add(shown.zones[s]);
            }
        }
        return bit(!remainder.leavesAny(shown.zones[state]));
    }

    public int points(int state) {
        if (!isState(state)) {
            return NONE;
        }
        sample[0] = 0;
        return shown.zones[state].wholeValues(sample);
    }

    public int rings() {
        return model.hurriedRings();
    }

    public int from(int place, int a, int b, int c, int goal) {
        if (!isPlace(place) || !isPlace(goal)) {
            return NONE;
        }
        beginUnits[0] = 0;
        beginUnits[1] = a;
        beginUnits[2] = b;
        beginUnits[3] = c;
        for (int i = 1; i <= model.clocks; i++) {
            if (beginUnits[i] < 0 || beginUnits[i] > BEGIN_UNITS_MOST) {
                return NONE;
            }
        }
        tried.plan(model, 2, true, model.clocks + 1);
        tried.goal = goal;
        tried.open(model, place, beginUnits);
        tried.grow(model);
        return bit(tried.found);
    }

    public int avoids(int place, int goal) {
        if (!isPlace(place) || !isPlace(goal)) {
            return NONE;
        }
        return bit(canReach(goal, place));
    }

    /** Whether the GRAPH by way 2, LEAVING OUT, from the start has a STATE with a PLACE, going round another. */
    private boolean canReach(int goal, int avoided) {
        tried.plan(model, 2, true, model.clocks + 1);
        tried.goal = goal;
        tried.avoided = avoided;
        beginAtZero(tried);
        tried.grow(model);
        return tried.found;
    }

    // ---- RUNS

    private boolean isStep(int state, int k) {
        return isState(state) && k >= 0 && k < shown.depths[state];
    }

    public int run(int state, int k) {
        if (!isStep(state, k)) {
            return NONE;
        }
        timing.loadRun(shown, state);
        return timing.path[k];
    }

    private boolean timesRun(int state) {
        timing.loadRun(shown, state);
        timing.layRules(model);
        return timing.findsLeast();
    }

    public int when(int state, int k) {
        if (!isStep(state, k) || !timesRun(state)) {
            return NONE;
        }
        return timing.at[k + 1];
    }

    public int then(int state, int k, int clock) {
        if (!isStep(state, k) || !isClock(clock) || !timesRun(state)) {
            return NONE;
        }
        return timing.clockBehind(model, k, clock);
    }

    public int spans(int state, int what) {
        if (!isState(state)) {
            return NONE;
        }
        timing.loadRun(shown, state);
        return timing.spanOf(model, what);
    }

    public int tells(int a, int b, int c, int d, int e, int what) {
        if (model.places == 0) {
            return NONE;
        }
        timing.length = 0;
        int here = model.start;
        for (int k = 0; k < 5; k++) {
            int edge = k == 0 ? a : k == 1 ? b : k == 2 ? c : k == 3 ? d : e;
            if (edge == NONE) {
                break;
            }
            if (!isEdge(edge) || model.sources[edge] != here) {
                return NONE;
            }
            timing.path[k] = edge;
            timing.length = k + 1;
            here = model.targets[edge];
        }
        return timing.spanOf(model, what);
    }

    public int latest(int state, int k, int units) {
        if (!isStep(state, k) || units < 0 || units > LATEST_UNITS_MOST) {
            return NONE;
        }
        timing.loadRun(shown, state);
        timing.layRules(model);
        return timing.findsGreatest(units * UNIT) ? timing.at[k + 1] : NONE;
    }

    public int soonest(int place, int what) {
        if (!isPlace(place) || what < 0 || what > 1) {
            return NONE;
        }
        if (!soonStands) {
            soon.plan(model, 2, true, model.clocks + 2);
            beginAtZero(soon);
            soon.grow(model);
            soonStands = true;
        }
        if (soon.full) {
            return CAN_NOT_TELL;
        }
        int loosest = soon.loosestAt(place, 0, model.clocks + 1);
        if (loosest <= -2 * SOON_UNITS_MOST) {
            return NONE;
        }
        return what == 0 ? -(loosest >> 1) : loosest & 1;
    }

    public int lets(int edge, int k, int place, int what) {
        int slot = slotOf(edge, k);
        if (slot == NONE || !isPlace(place) || what < 0 || what > 1) {
            return NONE;
        }
        int was = model.numbers[slot];
        int answer = CAN_NOT_TELL;
        for (int i = 0; i <= NUMBER_MOST && answer == CAN_NOT_TELL; i++) {
            int n = what == 0 ? i : NUMBER_MOST - i;
            model.setNumber(slot, n);
            if (canReach(place, NONE)) {
                answer = n;
            }
        }
        model.setNumber(slot, was);
        return answer;
    }

    // ---- PLAY

    public int begin() {
        return play.startsIn(model) ? play.site : NONE;
    }

    public boolean waits(int times) {
        if (!play.on || times < 0 || times > WAIT_MOST || times > play.longestWait(model)) {
            return false;
        }
        play.pass(times);
        return true;
    }

    public int takes(int edge) {
        if (!play.on || !isEdge(edge) || !play.opens(model, edge)) {
            return NONE;
        }
        play.cross(model, edge);
        return play.site;
    }

    public int now(int what) {
        if (!play.on) {
            return NONE;
        }
        switch (what) {
            case 0:
                return play.site;
            case 1:
                return play.time;
            case 2:
                return play.openEdges(model);
            case 3:
                return play.longestWait(model);
            default:
                return NONE;
        }
    }

    public int clock(int clock) throws NoSuchElementException {
        if (!play.on || !isClock(clock)) {
            throw new NoSuchElementException();
        }
        return play.times[clock];
    }

    public boolean replays(int state) {
        play.on = false;
        if (!isState(state) || !timesRun(state) || !play.startsIn(model)) {
            return false;
        }
        for (int k = 0; k < timing.length && play.on; k++) {
            play.on = play.goesBy(model, timing.at[k + 1] - timing.at[k], timing.path[k]);
        }
        return play.on;
    }

    /** A set of values of CLOCKS by its BOUNDS, always CLOSED; row and column 0 are the ZERO. */
    private static final class Zone {
        /** A BOUND "at most c" is held as 2c + 1, "below c" as 2c: the tighter one is the lesser number. */
        static final int FREE = Integer.MAX_VALUE;
        static final int AT_MOST_ZERO = 1;

        final int[] cells;
        int size;

        Zone(int sizeMost) {
            cells = new int[sizeMost * sizeMost];
        }

        /** The greatest TIMES that a BOUND leaves. */
        static int ticks(int bound) {
            if (bound == FREE) {
                return Integer.MAX_VALUE;
            }
            return (bound >> 1) * UNIT - 1 + (bound & 1);
        }

        /** The greatest whole number that a BOUND leaves. */
        static int wholePart(int bound) {
            return (bound - 1) >> 1;
        }

        int cellOf(int i, int j) {
            return cells[i * size + j];
        }

        void setPoint(int newSize, int[] values) {
            size = newSize;
            for (int i = 0; i < size; i++) {
                for (int j = 0; j < size; j++) {
                    cells[i * size + j] = 2 * (values[i] - values[j]) + 1;
                }
            }
        }

        /** All values that CLOCKS may ever have. */
        void setAll(int newSize) {
            size = newSize;
            for (int i = 0; i < size; i++) {
                for (int j = 0; j < size; j++) {
                    cells[i * size + j] = i == 0 || i == j ? AT_MOST_ZERO : FREE;
                }
            }
        }

        void copyOf(Zone other) {
            size = other.size;
            for (int i = 0; i < size * size; i++) {
                cells[i] = other.cells[i];
            }
        }

        /** Keeps what is within one BOUND more; false, the cells being of no use then, if nothing is. */
        boolean narrow(int i, int j, int bound) {
            if (bound >= cells[i * size + j]) {
                return true;
            }
            int back = cells[j * size + i];
            if (back != FREE && back + bound - ((back | bound) & 1) < AT_MOST_ZERO) {
                return false;
            }
            for (int p = 0; p < size; p++) {
                int ahead = cells[p * size + i];
                if (ahead == FREE) {
                    continue;
                }
                ahead = ahead + bound - ((ahead | bound) & 1);
                for (int q = 0; q < size; q++) {
                    int behind = cells[j * size + q];
                    if (behind == FREE) {
                        continue;
                    }
                    int round = ahead + behind - ((ahead | behind) & 1);
                    if (round < cells[p * size + q]) {
                        cells[p * size + q] = round;
                    }
                }
            }
            return true;
        }

        void setBack(int i) {
            for (int j = 0; j < size; j++) {
                cells[i * size + j] = cells[j];
                cells[j * size + i] = cells[j * size];
            }
            cells[i * size + i] = AT_MOST_ZERO;
        }

        void delay() {
            for (int i = 1; i < size; i++) {
                cells[i * size] = FREE;
            }
        }

        /** All values from which, as time goes by, one comes into it. */
        void setPast() {
            for (int i = 1; i < size; i++) {
                int low = AT_MOST_ZERO;
                for (int j = 1; j < size; j++) {
                    low = Math.min(low, cells[j * size + i]);
                }
                cells[i] = low;
            }
        }

        void forget(int[] high, int[] low) {
            for (int i = 0; i < size; i++) {
                for (int j = 0; j < size; j++) {
                    int cell = cells[i * size + j];
                    if (i == j || cell == FREE) {
                        continue;
                    }
                    if (cell > 2 * high[i] + 1) {
                        cells[i * size + j] = FREE;
                    } else if (cell < -2 * low[j]) {
                        cells[i * size + j] = -2 * low[j];
                    }
                }
            }
            close();
        }

        private void close() {
            for (int k = 0; k < size; k++) {
                for (int i = 0; i < size; i++) {
                    int ahead = cells[i * size + k];
                    if (ahead == FREE) {
                        continue;
                    }
                    for (int j = 0; j < size; j++) {
                        int behind = cells[k * size + j];
                        if (behind == FREE) {
                            continue;
                        }
                        int round = ahead + behind - ((ahead | behind) & 1);
                        if (round < cells[i * size + j]) {
                            cells[i * size + j] = round;
                        }
                    }
                }
            }
        }

        boolean holdsAll(Zone other) {
            for (int i = 0; i < size * size; i++) {
                if (other.cells[i] > cells[i]) {
                    return false;
                }
            }
            return true;
        }

        boolean equalTo(Zone other) {
            for (int i = 0; i < size * size; i++) {
                if (other.cells[i] != cells[i]) {
                    return false;
                }
            }
            return true;
        }

        boolean holdsTimes(int[] times) {
            for (int i = 0; i < size; i++) {
                for (int j = 0; j < size; j++) {
                    int cell = cells[i * size + j];
                    if (cell != FREE && (long) times[i] - times[j] > ticks(cell)) {
                        return false;
                    }
                }
            }
            return true;
        }

        int wholeValues(int[] chosen) {
            return wholeFrom(this, 1, chosen);
        }

        /** How many whole values CLOCKS from the i-th on can have beside those chosen for the ones ahead. */
        private static int wholeFrom(Zone zone, int i, int[] chosen) {
            int size = zone.size;
            if (i >= size || i >= chosen.length) {
                return 1;
            }
            int least = 0;
            int most = POINT_MOST;
            for (int j = 0; j < i; j++) {
                int over = zone.cells[i * size + j];
                int under = zone.cells[j * size + i];
                if (over != FREE) {
                    most = Math.min(most, chosen[j] + wholePart(over));
                }
                if (under != FREE) {
                    least = Math.max(least, chosen[j] - wholePart(under));
                }
            }
            if (i == size - 1) {
                return Math.max(0, most - least + 1);
            }
            int all = 0;
            for (int value = least; value <= most; value++) {
                chosen[i] = value;
                all += wholeFrom(zone, i + 1, chosen);
            }
            return all;
        }
    }

    /** What was told: CLOCKS, PLACES, EDGES; the CONDITIONS of a host, which is an EDGE or a PLACE. */
    private static final class Automaton {
        static final int BELOW = 0;
        static final int AT_MOST = 1;
        static final int EXACTLY = 2;
        static final int AT_LEAST = 3;
        static final int ABOVE = 4;
        static final int HOSTS = EDGES_MOST + PLACES_MOST;

        int clocks;
        int places;
        int edges;
        int start;
        final boolean[] hurried;
        final int[] sources;
        final int[] targets;
        final int[] resets;
        final int[] counts;
        final int[] conditionClocks;
        final int[] hows;
        final int[] numbers;
        /** The BOUNDS that a CONDITION sets: of its CLOCK less the ZERO, and of the ZERO less its CLOCK. */
        final int[] ceilings;
        final int[] floors;
        final int[] greatest;
        final int[] lower;
        final int[] upper;

        Automaton() {
            start = NONE;
            hurried = new boolean[PLACES_MOST];
            sources = new int[EDGES_MOST];
            targets = new int[EDGES_MOST];
            resets = new int[EDGES_MOST];
            counts = new int[HOSTS];
            conditionClocks = new int[HOSTS * WHENS_MOST];
            hows = new int[HOSTS * WHENS_MOST];
            numbers = new int[HOSTS * WHENS_MOST];
            ceilings = new int[HOSTS * WHENS_MOST];
            floors = new int[HOSTS * WHENS_MOST];
            greatest = new int[CLOCKS_MOST + 1];
            lower = new int[CLOCKS_MOST + 1];
            upper = new int[CLOCKS_MOST + 1];
        }

        static int hostOfPlace(int place) {
            return EDGES_MOST + place;
        }

        static int slot(int host, int k) {
            return host * WHENS_MOST + k;
        }

        void clear() {
            clocks = 0;
            places = 0;
            edges = 0;
            start = NONE;
            for (int p = 0; p < PLACES_MOST; p++) {
                hurried[p] = false;
            }
            for (int h = 0; h < HOSTS; h++) {
                counts[h] = 0;
            }
        }

        void addEdge(int source, int target) {
            sources[edges] = source;
            targets[edges] = target;
            resets[edges] = 0;
            edges++;
        }

        void addCondition(int host, int clock, int how, int n) {
            int slot = slot(host, counts[host]);
            conditionClocks[slot] = clock;
            hows[slot] = how;
            numbers[slot] = n;
            setBounds(slot);
            counts[host]++;
        }

        private void setBounds(int slot) {
            int how = hows[slot];
            int n = numbers[slot];
            ceilings[slot] = how > EXACTLY ? Zone.FREE : how == BELOW ? 2 * n : 2 * n + 1;
            floors[slot] = how < EXACTLY ? Zone.FREE : how == ABOVE ? -2 * n : 1 - 2 * n;
        }

        void setNumber(int slot, int n) {
            numbers[slot] = n;
            setBounds(slot);
            measure();
        }

        void measure() {
            for (int i = 0; i <= CLOCKS_MOST; i++) {
                greatest[i] = 0;
                lower[i] = 0;
                upper[i] = 0;
            }
            for (int h = 0; h < HOSTS; h++) {
                for (int k = 0; k < counts[h]; k++) {
                    int slot = slot(h, k);
                    int i = conditionClocks[slot] + 1;
                    greatest[i] = Math.max(greatest[i], numbers[slot]);
                    if (hows[slot] >= EXACTLY) {
                        lower[i] = Math.max(lower[i], numbers[slot]);
                    }
                    if (hows[slot] <= EXACTLY) {
                        upper[i] = Math.max(upper[i], numbers[slot]);
                    }
                }
            }
        }

        int allConditions() {
            int all = 0;
            for (int h = 0; h < HOSTS; h++) {
                all += counts[h];
            }
            return all;
        }

        int edgesWith(int[] ends, int place) {
            int bits = 0;
            for (int e = 0; e < edges; e++) {
                if (ends[e] == place) {
                    bits |= 1 << e;
                }
            }
            return bits;
        }

        /** Keeps the values by which CONDITIONS of a host hold, once the CLOCKS of some bits are 0. */
        boolean narrowTo(Zone zone, int host, int zeroed) {
            for (int k = 0; k < counts[host]; k++) {
                int slot = slot(host, k);
                int clock = conditionClocks[slot];
                if ((zeroed >> clock & 1) == 1) {
                    if (ceilings[slot] < Zone.AT_MOST_ZERO || floors[slot] < Zone.AT_MOST_ZERO) {
                        return false;
                    }
                } else if (!zone.narrow(clock + 1, 0, ceilings[slot]) || !zone.narrow(0, clock + 1, floors[slot])) {
                    return false;
                }
            }
            return true;
        }

        /** Keeps the values by which an EDGE can be taken, its second PLACE looked at too. */
        boolean opensIn(Zone zone, int edge) {
            return narrowTo(zone, edge, 0) && narrowTo(zone, hostOfPlace(targets[edge]), resets[edge]);
        }

        void setBackIn(Zone zone, int edge) {
            for (int c = 0; c < clocks; c++) {
                if ((resets[edge] >> c & 1) == 1) {
                    zone.setBack(c + 1);
                }
            }
        }

        /** Lets time go by at a PLACE, by values by which its CONDITIONS hold already. */
        void stayIn(Zone zone, int place) {
            if (!hurried[place]) {
                zone.delay();
                narrowTo(zone, hostOfPlace(place), 0);
            }
        }

        boolean holdsAt(int host, int[] times) {
            for (int k = 0; k < counts[host]; k++) {
                int slot = slot(host, k);
                int value = times[conditionClocks[slot]];
                if (value > Zone.ticks(ceilings[slot]) || -value > Zone.ticks(floors[slot])) {
                    return false;
                }
            }
            return true;
        }

        int hurriedRings() {
            int rings = 0;
            for (int p = 0; p < places; p++) {
                if (hurried[p] && (hurriedBehind(p) >> p & 1) == 1) {
                    rings |= 1 << p;
                }
            }
            return rings;
        }

        /** URGENT PLACES to which EDGES lead from one, by way of URGENT ones alone. */
        private int hurriedBehind(int place) {
            int behind = 0;
            for (int round = 0; round < PLACES_MOST; round++) {
                for (int e = 0; e < edges; e++) {
                    boolean there = sources[e] == place || (behind >> sources[e] & 1) == 1;
                    if (there && hurried[targets[e]]) {
                        behind |= 1 << targets[e];
                    }
                }
            }
            return behind;
        }
    }

    /** Reads a text into an AUTOMATON, up to its first FAULT. */
    private static final class Reader {
        private static final int WORD_MOST = 6;
        private static final int DIGITS_MOST = 3;

        private static final int NO_TOKEN = 0;
        private static final int ENDING = 1;
        private static final int NAME = 2;
        private static final int NUMBER = 3;
        private static final int LESS = 4;
        private static final int EQUAL = 5;
        private static final int GREATER = 6;
        private static final int STOP = 7;
        /** From here on the words that are no NAMES, in the order in which they are kept. */
        private static final int CLOCK = 8;
        private static final int PLACE = 9;
        private static final int URGENT = 10;
        private static final int UNTIL = 11;
        private static final int START = 12;
        private static final int EDGE = 13;
        private static final int WHEN = 14;
        private static final int RESET = 15;

        private static final int FAULT_NO_TOKEN = 1;
        private static final int FAULT_ORDER = 2;
        private static final int FAULT_NAME = 3;
        private static final int FAULT_NUMBER = 4;
        private static final int FAULT_MANY = 5;
        private static final int FAULT_NO_PLACE = 6;

        int fault;
        int faultAt;
        private int[] text;
        private int length;
        private int position;
        private int kind;
        private int value;
        private int tokenAt;
        private Automaton into;
        private final int[] words;
        private final int[] clockNames;
        private final int[] placeNames;

        Reader() {
            faultAt = NONE;
            words = new int[] {
                code("clock"), code("place"), code("urgent"), code("until"),
                code("start"), code("edge"), code("when"), code("reset")
            };
            clockNames = new int[CLOCKS_MOST];
            placeNames = new int[PLACES_MOST];
        }

        private static int code(String word) {
            int code = 0;
            for (int i = 0; i < word.length(); i++) {
                code = code * 32 + word.charAt(i) - 'a' + 1;
            }
            return code;
        }

        boolean reads(int[] tape, int taped, Automaton target) {
            text = tape;
            length = taped;
            position = 0;
            fault = 0;
            faultAt = NONE;
            into = target;
            into.clear();
            advance();
            for (int line = 0; line <= length && kind != ENDING; line++) {
                boolean fine = kind == CLOCK ? readsClock()
                    : kind == PLACE ? readsPlace()
                    : kind == START ? readsStart()
                    : kind == EDGE ? readsEdge()
                    : refuseToken();
                if (!fine || !readsStop()) {
                    return false;
                }
            }
            if (into.places == 0) {
                return refuse(FAULT_NO_PLACE);
            }
            into.start = Math.max(into.start, 0);
            into.measure();
            return true;
        }

        private boolean refuse(int what) {
            fault = what;
            faultAt = tokenAt;
            return false;
        }

        private boolean refuseToken() {
            return refuse(kind == NO_TOKEN ? FAULT_NO_TOKEN : FAULT_ORDER);
        }

        private boolean readsStop() {
            if (kind != STOP) {
                return refuseToken();
            }
            advance();
            return true;
        }

        private boolean readsClock() {
            if (into.clocks >= CLOCKS_MOST) {
                return refuse(FAULT_MANY);
            }
            advance();
            if (!isNewName()) {
                return false;
            }
            clockNames[into.clocks] = value;
            into.clocks++;
            advance();
            return true;
        }

        private boolean readsPlace() {
            if (into.places >= PLACES_MOST) {
                return refuse(FAULT_MANY);
            }
            advance();
            if (!isNewName()) {
                return false;
            }
            int place = into.places;
            placeNames[place] = value;
            into.places++;
            advance();
            if (kind == URGENT) {
                into.hurried[place] = true;
                advance();
            }
            return readsConditions(Automaton.hostOfPlace(place), UNTIL, UNTILS_MOST);
        }

        private boolean readsStart() {
            if (into.start != NONE) {
                return refuse(FAULT_MANY);
            }
            advance();
            int place = toldName(placeNames, into.places);
            if (place == NONE) {
                return false;
            }
            into.start = place;
            advance();
            return true;
        }

        private boolean readsEdge() {
            if (into.edges >= EDGES_MOST) {
                return refuse(FAULT_MANY);
            }
            advance();
            int source = toldName(placeNames, into.places);
            if (source == NONE) {
                return false;
            }
            advance();
            int target = toldName(placeNames, into.places);
            if (target == NONE) {
                return false;
            }
            advance();
            int edge = into.edges;
            into.addEdge(source, target);
            return readsConditions(edge, WHEN, WHENS_MOST) && readsResets(edge);
        }

        private boolean readsResets(int edge) {
            for (int k = 0; k <= CLOCKS_MOST && kind == RESET; k++) {
                advance();
                int clock = toldName(clockNames, into.clocks);
                if (clock == NONE) {
                    return false;
                }
                if ((into.resets[edge] >> clock & 1) == 1) {
                    return refuse(FAULT_MANY);
                }
                into.resets[edge] |= 1 << clock;
                advance();
            }
            return true;
        }

        private boolean readsConditions(int host, int word, int most) {
            for (int k = 0; k <= most && kind == word; k++) {
                if (k == most) {
                    return refuse(FAULT_MANY);
                }
                advance();
                int clock = toldName(clockNames, into.clocks);
                if (clock == NONE) {
                    return false;
                }
                advance();
                int how = readHow(word == UNTIL);
                if (how == NONE) {
                    return false;
                }
                if (kind != NUMBER) {
                    return refuseToken();
                }
                if (value > NUMBER_MOST) {
                    return refuse(FAULT_NUMBER);
                }
                into.addCondition(host, clock, how, value);
                advance();
            }
            return true;
        }

        /** Reads the signs ahead of a number; NONE, the FAULT being told, if none can stand there. */
        private int readHow(boolean lessOnly) {
            int sign = kind;
            if (sign != LESS && (lessOnly || sign != EQUAL && sign != GREATER)) {
                refuseToken();
                return NONE;
            }
            advance();
            if (sign == EQUAL) {
                return Automaton.EXACTLY;
            }
            if (kind != EQUAL) {
                return sign == LESS ? Automaton.BELOW : Automaton.ABOVE;
            }
            advance();
            return sign == LESS ? Automaton.AT_MOST : Automaton.AT_LEAST;
        }

        private boolean isNewName() {
            if (kind != NAME) {
                return refuseToken();
            }
            boolean told = indexOf(clockNames, into.clocks) != NONE || indexOf(placeNames, into.places) != NONE;
            return !told || refuse(FAULT_NAME);
        }

        /** Which of some NAMES stands here; NONE, the FAULT being told, if it is none of them. */
        private int toldName(int[] names, int count) {
            if (kind != NAME) {
                refuseToken();
                return NONE;
            }
            int index = indexOf(names, count);
            if (index == NONE) {
                refuse(FAULT_NAME);
            }
            return index;
        }

        private int indexOf(int[] names, int count) {
            for (int i = 0; i < count; i++) {
                if (names[i] == value) {
                    return i;
                }
            }
            return NONE;
        }

        private void advance() {
            while (position < length && (text[position] == ' ' || text[position] == '\n')) {
                position++;
            }
            tokenAt = position;
            if (position >= length) {
                kind = ENDING;
            } else if (text[position] >= 'a' && text[position] <= 'z') {
                scanWord();
            } else if (text[position] >= '0' && text[position] <= '9') {
                scanNumber();
            } else {
                scanSign();
            }
        }

        private void scanWord() {
            value = 0;
            while (position < length && text[position] >= 'a' && text[position] <= 'z') {
                value = value * 32 + text[position] - 'a' + 1;
                position++;
            }
            kind = position - tokenAt > WORD_MOST ? NO_TOKEN : NAME;
            for (int w = 0; w < words.length && kind == NAME; w++) {
                if (words[w] == value) {
                    kind = CLOCK + w;
                }
            }
        }

        private void scanNumber() {
            value = 0;
            while (position < length && text[position] >= '0' && text[position] <= '9') {
                value = value * 10 + text[position] - '0';
                position++;
            }
            boolean letter = position < length && text[position] >= 'a' && text[position] <= 'z';
            kind = position - tokenAt > DIGITS_MOST || letter ? NO_TOKEN : NUMBER;
        }

        private void scanSign() {
            switch (text[position]) {
                case '<':
                    kind = LESS;
                    break;
                case '=':
                    kind = EQUAL;
                    break;
                case '>':
                    kind = GREATER;
                    break;
                case ';':
                    kind = STOP;
                    break;
                default:
                    kind = NO_TOKEN;
                    break;
            }
            position++;
        }
    }

    /** ACTS that can be undone: a slot with the number that it had, or a PLACE with what it was. */
    private static final class History {
        int count;
        private final int[] codes;
        private final int[] olds;

        History() {
            codes = new int[ACTS_MOST];
            olds = new int[ACTS_MOST];
        }

        /** PLACES are below 0, so that they are told from the slots of CONDITIONS. */
        static int codeOfPlace(int place) {
            return -1 - place;
        }

        void keep(int code, int old) {
            if (count == ACTS_MOST) {
                for (int i = 1; i < ACTS_MOST; i++) {
                    codes[i - 1] = codes[i];
                    olds[i - 1] = olds[i];
                }
                count--;
            }
            codes[count] = code;
            olds[count] = old;
            count++;
        }

        boolean takesBack(Automaton model) {
            if (count == 0) {
                return false;
            }
            count--;
            int code = codes[count];
            if (code < 0) {
                model.hurried[-1 - code] = olds[count] == 1;
            } else {
                model.setNumber(code, olds[count]);
            }
            return true;
        }
    }

    /** STATES as they come, from the first one on. */
    private static final class Graph {
        /** The next STATE is worked out where it would be kept, so there is one ZONE more than STATES. */
        final Zone[] zones;
        final int[] sites;
        final int[] parents;
        final int[] entries;
        final int[] depths;
        final int[] broods;
        int count;
        boolean full;
        int crossed;
        int way;
        int avoided;
        int goal;
        boolean found;
        private final int most;
        private boolean leaves;
        private int size;
        private final int[] high;
        private final int[] low;

        Graph(int most, int sizeMost) {
            this.most = most;
            zones = new Zone[most + 1];
            for (int i = 0; i <= most; i++) {
                zones[i] = new Zone(sizeMost);
            }
            sites = new int[most];
            parents = new int[most];
            entries = new int[most];
            depths = new int[most];
            broods = new int[most];
            high = new int[CLOCKS_MOST + 2];
            low = new int[CLOCKS_MOST + 2];
        }

        /** A size of one more than the CLOCKS and the ZERO need is for the CLOCK of SOON. */
        void plan(Automaton model, int newWay, boolean leavesOut, int newSize) {
            way = newWay;
            leaves = leavesOut;
            size = newSize;
            avoided = NONE;
            goal = NONE;
            found = false;
            for (int i = 0; i <= model.clocks; i++) {
                high[i] = way == 1 ? model.greatest[i] : model.lower[i];
                low[i] = way == 1 ? model.greatest[i] : model.upper[i];
            }
            for (int i = model.clocks + 1; i < size; i++) {
                high[i] = 0;
                low[i] = SOON_UNITS_MOST;
            }
        }

        void open(Automaton model, int place, int[] units) {
            count = 0;
            full = false;
            crossed = 0;
            Zone zone = zones[0];
            zone.setPoint(size, units);
            if (place != avoided && model.narrowTo(zone, Automaton.hostOfPlace(place), 0)) {
                model.stayIn(zone, place);
                if (way != 0) {
                    zone.forget(high, low);
                }
                record(place, NONE, NONE);
            }
        }

        private void record(int place, int parent, int edge) {
            sites[count] = place;
            parents[count] = parent;
            entries[count] = edge;
            depths[count] = 0;
            broods[count] = 0;
            if (parent != NONE) {
                depths[count] = depths[parent] + 1;
                broods[parent]++;
            }
            count++;
            if (place == goal) {
                found = true;
            }
        }

        /** Goes on till no STATE is left, or (where one is asked for alone) the goal is found. */
        void grow(Automaton model) {
            for (int s = 0; s < count && !found; s++) {
                for (int e = 0; e < model.edges && !found; e++) {
                    if (model.sources[e] == sites[s] && model.targets[e] != avoided) {
                        step(model, s, e);
                    }
                }
            }
        }

        private void step(Automaton model, int state, int edge) {
            Zone zone = zones[count];
            zone.copyOf(zones[state]);
            if (!model.opensIn(zone, edge)) {
                return;
            }
            crossed |= 1 << edge;
            model.setBackIn(zone, edge);
            int place = model.targets[edge];
            model.stayIn(zone, place);
            if (way != 0) {
                zone.forget(high, low);
            }
            if (isKnown(zone, place)) {
                return;
            }
            if (count == most) {
                full = true;
                return;
            }
            record(place, state, edge);
        }

        private boolean isKnown(Zone zone, int place) {
            for (int s = 0; s < count; s++) {
                if (sites[s] == place && (leaves ? zones[s].holdsAll(zone) : zones[s].equalTo(zone))) {
                    return true;
                }
            }
            return false;
        }

        int firstAt(int place) {
            for (int s = 0; s < count; s++) {
                if (sites[s] == place) {
                    return s;
                }
            }
            return NONE;
        }

        int allSites() {
            int bits = 0;
            for (int s = 0; s < count; s++) {
                bits |= 1 << sites[s];
            }
            return bits;
        }

        /** The loosest BOUND of i less j of all STATES with a PLACE; without one the least number. */
        int loosestAt(int place, int i, int j) {
            int loosest = Integer.MIN_VALUE;
            for (int s = 0; s < count; s++) {
                if (sites[s] == place) {
                    loosest = Math.max(loosest, zones[s].cellOf(i, j));
                }
            }
            return loosest;
        }
    }

    /** What is left of a ZONE when others are taken away, piece by piece. */
    private static final class Remainder {
        private static final int SWALLOWED = -1;
        /** Pieces share no value, and some thousand turns are the most that was ever seen. */
        private static final int TURNS_MOST = 100000000;

        private final Zone[] covers;
        private int count;
        private final Zone[] made;
        private int used;
        /** At each level the rest of a piece that one cover is being cut out of. */
        private final Zone[] pieces;
        private final int[] cutting;
        private final int[] cells;
        private final Zone scratch;

        Remainder() {
            covers = new Zone[STATES_MOST];
            made = new Zone[2 * EDGES_MOST];
            for (int i = 0; i < made.length; i++) {
                made[i] = new Zone(CLOCKS_MOST + 1);
            }
            pieces = new Zone[STATES_MOST + 2];
            for (int i = 0; i < pieces.length; i++) {
                pieces[i] = new Zone(CLOCKS_MOST + 1);
            }
            cutting = new int[STATES_MOST + 2];
            cells = new int[STATES_MOST + 2];
            scratch = new Zone(CLOCKS_MOST + 1);
        }

        void clear() {
            count = 0;
            used = 0;
        }

        void add(Zone zone) {
            if (count < covers.length) {
                covers[count] = zone;
                count++;
            }
        }

        /** Adds the values by which an EDGE can be taken at once, and those by which it can behind a wait. */
        void addLeaving(Automaton model, int edge, int size) {
            if (used + 2 > made.length) {
                return;
            }
            Zone open = made[used];
            open.setAll(size);
            if (!model.opensIn(open, edge)) {
                return;
            }
            used++;
            add(open);
            int place = model.sources[edge];
            Zone past = made[used];
            past.copyOf(open);
            if (!model.hurried[place] && model.narrowTo(past, Automaton.hostOfPlace(place), 0)) {
                past.setPast();
                used++;
                add(past);
            }
        }

        boolean meet(Zone one, Zone other) {
            scratch.copyOf(one);
            for (int i = 0; i < other.size; i++) {
                for (int j = 0; j < other.size; j++) {
                    if (!scratch.narrow(i, j, other.cellOf(i, j))) {
                        return false;
                    }
                }
            }
            return true;
        }

        /** Whether a ZONE has a value that none of the added ones has. */
        boolean leavesAny(Zone whole) {
            pieces[0].copyOf(whole);
            cutting[0] = nextCover(whole, 0);
            cells[0] = 0;
            int level = cutting[0] == SWALLOWED ? -1 : 0;
            for (int turn = 0; turn < TURNS_MOST && level >= 0; turn++) {
                if (cutting[level] == count) {
                    return true;
                }
                if (!splits(level)) {
                    level--;
                } else if (cutting[level + 1] != SWALLOWED) {
                    level++;
                }
            }
            return level >= 0;
        }

        /** The first cover from one on that takes away some of a piece; SWALLOWED if one takes all of it. */
        private int nextCover(Zone piece, int start) {
            for (int c = start; c < count; c++) {
                if (covers[c].holdsAll(piece)) {
                    return SWALLOWED;
                }
            }
            for (int c = start; c < count; c++) {
                if (meet(piece, covers[c])) {
                    return c;
                }
            }
            return count;
        }

        /** Puts what lies beyond one more BOUND of the cover on the next level; false if all else is in it. */
        private boolean splits(int level) {
            Zone piece = pieces[level];
            Zone cover = covers[cutting[level]];
            int size = piece.size;
            for (int cell = cells[level]; cell < size * size; cell++) {
                int bound = cover.cells[cell];
                if (bound < piece.cells[cell]) {
                    int i = cell / size;
                    int j = cell % size;
                    Zone outside = pieces[level + 1];
                    outside.copyOf(piece);
                    outside.narrow(j, i, 1 - bound);
                    piece.narrow(i, j, bound);
                    cells[level] = cell + 1;
                    cells[level + 1] = 0;
                    cutting[level + 1] = nextCover(outside, cutting[level] + 1);
                    return true;
                }
            }
            return false;
        }
    }

    /** When the EDGES of a path are taken: rules between two of its moments, the begin being moment 0. */
    private static final class Timing {
        private static final int RULES_MOST = 16 * STATES_MOST;

        final int[] path;
        int length;
        final int[] at;
        /** Moment laters[r] comes gaps[r] TIMES behind moment earliers[r], at least. */
        private final int[] laters;
        private final int[] earliers;
        private final int[] gaps;
        private int rules;
        private final int[] since;
        private final int[] zeros;
        private final Zone zone;

        Timing() {
            path = new int[STATES_MOST];
            at = new int[STATES_MOST + 1];
            laters = new int[RULES_MOST];
            earliers = new int[RULES_MOST];
            gaps = new int[RULES_MOST];
            since = new int[CLOCKS_MOST];
            zeros = new int[CLOCKS_MOST + 2];
            zone = new Zone(CLOCKS_MOST + 2);
        }

        void loadRun(Graph graph, int state) {
            length = graph.depths[state];
            int s = state;
            for (int k = length - 1; k >= 0; k--) {
                path[k] = graph.entries[s];
                s = graph.parents[s];
            }
        }

        void layRules(Automaton model) {
            rules = 0;
            for (int c = 0; c < CLOCKS_MOST; c++) {
                since[c] = 0;
            }
            layConditions(model, Automaton.hostOfPlace(model.start), 0);
            for (int k = 0; k < length; k++) {
                int edge = path[k];
                int place = model.sources[edge];
                layRule(k + 1, k, 0);
                if (model.hurried[place]) {
                    layRule(k, k + 1, 0);
                }
                layConditions(model, Automaton.hostOfPlace(place), k + 1);
                layConditions(model, edge, k + 1);
                for (int c = 0; c < model.clocks; c++) {
                    if ((model.resets[edge] >> c & 1) == 1) {
                        since[c] = k + 1;
                    }
                }
                layConditions(model, Automaton.hostOfPlace(model.targets[edge]), k + 1);
            }
        }

        private void layConditions(Automaton model, int host, int moment) {
            for (int k = 0; k < model.counts[host]; k++) {
                int slot = Automaton.slot(host, k);
                int back = since[model.conditionClocks[slot]];
                if (model.ceilings[slot] != Zone.FREE) {
                    layRule(back, moment, -Zone.ticks(model.ceilings[slot]));
                }
                if (model.floors[slot] != Zone.FREE) {
                    layRule(moment, back, -Zone.ticks(model.floors[slot]));
                }
            }
        }

        private void layRule(int later, int earlier, int gap) {
            if (rules < RULES_MOST) {
                laters[rules] = later;
                earliers[rules] = earlier;
                gaps[rules] = gap;
                rules++;
            }
        }

        /** Each round settles one moment more at least, so moments that still move then never rest. */
        boolean findsLeast() {
            for (int k = 0; k <= length; k++) {
                at[k] = 0;
            }
            boolean moves = true;
            for (int round = 0; round <= length + 1 && moves && at[0] == 0; round++) {
                moves = false;
                for (int r = 0; r < rules; r++) {
                    int least = at[earliers[r]] + gaps[r];
                    if (least > at[laters[r]]) {
                        at[laters[r]] = least;
                        moves = true;
                    }
                }
            }
            return !moves && at[0] == 0;
        }

        boolean findsGreatest(int last) {
            at[0] = 0;
            for (int k = 1; k <= length; k++) {
                at[k] = last;
            }
            boolean moves = true;
            for (int round = 0; round <= length + 1 && moves && at[0] == 0; round++) {
                moves = false;
                for (int r = 0; r < rules; r++) {
                    int most = at[laters[r]] - gaps[r];
                    if (most < at[earliers[r]]) {
                        at[earliers[r]] = most;
                        moves = true;
                    }
                }
            }
            return !moves && at[0] == 0;
        }

        int clockBehind(Automaton model, int k, int clock) {
            int back = 0;
            for (int i = 0; i <= k; i++) {
                if ((model.resets[path[i]] >> clock & 1) == 1) {
                    back = i + 1;
                }
            }
            return at[k + 1] - at[back];
        }

        /** What all runs by the path take, by one CLOCK more that is never set back. */
        int spanOf(Automaton model, int what) {
            int whole = model.clocks + 1;
            zone.setPoint(whole + 1, zeros);
            if (!model.narrowTo(zone, Automaton.hostOfPlace(model.start), 0)) {
                return NONE;
            }
            for (int k = 0; k < length; k++) {
                model.stayIn(zone, model.sources[path[k]]);
                if (!model.opensIn(zone, path[k])) {
                    return NONE;
                }
                model.setBackIn(zone, path[k]);
            }
            int least = zone.cellOf(0, whole);
            int most = zone.cellOf(whole, 0);
            switch (what) {
                case 0:
                    return -(least >> 1);
                case 1:
                    return least & 1;
                case 2:
                    return most == Zone.FREE ? Integer.MAX_VALUE : most >> 1;
                case 3:
                    return most == Zone.FREE ? 0 : most & 1;
                default:
                    return NONE;
            }
        }
    }

    /** A run by hand. */
    private static final class Play {
        boolean on;
        int site;
        int time;
        final int[] times;
        private final int[] behind;

        Play() {
            times = new int[CLOCKS_MOST];
            behind = new int[CLOCKS_MOST];
        }

        boolean startsIn(Automaton model) {
            on = false;
            if (model.places == 0) {
                return false;
            }
            site = model.start;
            time = 0;
            for (int c = 0; c < CLOCKS_MOST; c++) {
                times[c] = 0;
            }
            on = model.holdsAt(Automaton.hostOfPlace(site), times);
            return on;
        }

        int longestWait(Automaton model) {
            if (model.hurried[site]) {
                return 0;
            }
            int longest = Integer.MAX_VALUE;
            int host = Automaton.hostOfPlace(site);
            for (int k = 0; k < model.counts[host]; k++) {
                int slot = Automaton.slot(host, k);
                longest = Math.min(longest, Zone.ticks(model.ceilings[slot]) - times[model.conditionClocks[slot]]);
            }
            return longest;
        }

        void pass(int wait) {
            time += wait;
            for (int c = 0; c < CLOCKS_MOST; c++) {
                times[c] += wait;
            }
        }

        boolean opens(Automaton model, int edge) {
            if (model.sources[edge] != site || !model.holdsAt(edge, times)) {
                return false;
            }
            for (int c = 0; c < CLOCKS_MOST; c++) {
                behind[c] = (model.resets[edge] >> c & 1) == 1 ? 0 : times[c];
            }
            return model.holdsAt(Automaton.hostOfPlace(model.targets[edge]), behind);
        }

        void cross(Automaton model, int edge) {
            for (int c = 0; c < CLOCKS_MOST; c++) {
                if ((model.resets[edge] >> c & 1) == 1) {
                    times[c] = 0;
                }
            }
            site = model.targets[edge];
        }

        int openEdges(Automaton model) {
            int bits = 0;
            for (int e = 0; e < model.edges; e++) {
                if (opens(model, e)) {
                    bits |= 1 << e;
                }
            }
            return bits;
        }

        boolean goesBy(Automaton model, int wait, int edge) {
            if (wait < 0 || wait > longestWait(model)) {
                return false;
            }
            pass(wait);
            if (!opens(model, edge)) {
                return false;
            }
            cross(model, edge);
            return true;
        }
    }
}
