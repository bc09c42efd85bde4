import java.util.Random;

/** Automata made at random (the same ones each time), each answer compared with one found in another, plainer way. */
public final class OracleTest {
    public static void main(String[] args) {
        Random random = new Random(20261118);
        for (int i = 0; i < 1500; i++) {
            Told told = Told.random(random, random.nextInt(4), 1 + random.nextInt(i % 10 == 0 ? 20 : 5));
            ClockReach x = Check.of(told.text());
            structure(told, x);
            for (int way = 0; way <= 2; way++) {
                graph(told, x, way, true);
                graph(told, x, way, false);
            }
        }
        for (int i = 0; i < 250; i++) {
            Told told = Told.random(random, random.nextInt(4), 1 + random.nextInt(4));
            reach(told, Check.of(told.text()), random);
        }
        for (int i = 0; i < 120; i++) {
            Told told = Told.random(random, random.nextInt(3), 1 + random.nextInt(4));
            soon(told, Check.of(told.text()));
        }
        Check.finish("OracleTest");
    }

    private static void structure(Told told, ClockReach x) {
        String text = told.text();
        Check.same("about(0) of " + text, x.about(0), told.clocks);
        Check.same("about(1) of " + text, x.about(1), told.places);
        Check.same("about(2) of " + text, x.about(2), told.edges.size());
        Check.same("about(3) of " + text, x.about(3), told.start);
        Check.same("about(4) of " + text, x.about(4), told.allConditions().size());
        for (int c = 0; c < told.clocks; c++) {
            for (int what = 0; what < 3; what++) {
                Check.same("limit of " + text, x.limit(c, what), told.limit(c, what));
            }
        }
        for (int e = 0; e < told.edges.size(); e++) {
            Told.Edge edge = told.edges.get(e);
            Check.same("edge of " + text, x.edge(e, 0), edge.from);
            Check.same("edge of " + text, x.edge(e, 1), edge.to);
            Check.same("edge of " + text, x.edge(e, 2), edge.whens.size());
            Check.same("edge of " + text, x.edge(e, 3), edge.resets);
            for (int k = 0; k < edge.whens.size(); k++) {
                for (int what = 0; what < 3; what++) {
                    Check.same("condition of " + text, x.condition(e, k, what), edge.whens.get(k)[what]);
                }
            }
        }
        for (int p = 0; p < told.places; p++) {
            Check.same("place of " + text, x.place(p, 0), told.urgent[p] ? 1 : 0);
            Check.same("place of " + text, x.place(p, 1), told.untils.get(p).size());
            for (int k = 0; k < told.untils.get(p).size(); k++) {
                for (int what = 0; what < 3; what++) {
                    Check.same("condition of " + text, x.condition(100 + p, k, what), told.untils.get(p).get(k)[what]);
                }
            }
        }
    }

    private static void graph(Told told, ClockReach x, int way, boolean leaves) {
        String call = "graph(" + way + ", " + leaves + ") of " + told.text();
        PlainGraph plain = new PlainGraph(told, way, leaves, told.start, new int[told.clocks + 1], 120);
        Check.same(call, x.graph(way, leaves), plain.states.size());
        Check.same("about(6) " + call, x.about(6), plain.full ? 1 : 0);
        Check.same("about(7) " + call, x.about(7), way);
        Check.same("taken " + call, x.taken(), plain.taken);
        Check.same("reached " + call, x.reached(), plain.reached());
        for (int s = 0; s < plain.states.size(); s++) {
            for (int what = 0; what < 5; what++) {
                Check.same("state(" + s + ", " + what + ") " + call, x.state(s, what), plain.states.get(s)[what]);
            }
            Bounds zone = plain.zones.get(s);
            for (int i = 0; i <= told.clocks; i++) {
                for (int j = 0; j <= told.clocks; j++) {
                    boolean free = zone.number[i][j] == Bounds.FREE;
                    String bound = "bound(" + s + ", " + (i - 1) + ", " + (j - 1) + ") " + call;
                    Check.same(bound, x.bound(s, i - 1, j - 1, 0), free ? Integer.MAX_VALUE : zone.number[i][j]);
                    Check.same(bound, x.bound(s, i - 1, j - 1, 1),
                        free ? Integer.MAX_VALUE : zone.strict[i][j] ? 0 : 1);
                }
            }
        }
    }

    /** Which places and edges can be reached, by regions; all three ways have to agree, if they are not FULL. */
    private static void reach(Told told, ClockReach x, Random random) {
        String text = told.text();
        Regions regions = new Regions(told, told.start, new int[3], -1, false);
        for (int way = 0; way <= 2; way++) {
            x.graph(way, true);
            if (x.about(6) == 0) {
                Check.same("reached, way " + way + " of " + text, x.reached(), regions.reached);
                Check.same("taken, way " + way + " of " + text, x.taken(), regions.taken);
            }
        }
        if (x.about(6) == 1) {
            return;
        }
        for (int avoided = 0; avoided < told.places; avoided++) {
            Regions round = new Regions(told, told.start, new int[3], avoided, false);
            for (int goal = 0; goal < told.places; goal++) {
                Check.same("avoids(" + avoided + ", " + goal + ") of " + text, x.avoids(avoided, goal),
                    round.reached >> goal & 1);
            }
        }
        for (int i = 0; i < 6; i++) {
            int place = random.nextInt(told.places);
            int[] units = {random.nextInt(5), random.nextInt(5), random.nextInt(i == 5 ? 61 : 5)};
            Regions begun = new Regions(told, place, units, -1, false);
            for (int goal = 0; goal < told.places; goal++) {
                Check.same("from(" + place + ", " + units[0] + ", " + units[1] + ", " + units[2] + ", " + goal + ") of "
                    + text, x.from(place, units[0], units[1], units[2], goal), begun.reached >> goal & 1);
            }
        }
        lets(told, x, random);
    }

    private static void lets(Told told, ClockReach x, Random random) {
        int e = random.nextInt(told.edges.size());
        int p = random.nextInt(told.places);
        for (int turn = 0; turn < 2; turn++) {
            int edge = turn == 0 ? e : 100 + p;
            java.util.List<int[]> conditions = turn == 0 ? told.edges.get(e).whens : told.untils.get(p);
            for (int k = 0; k < conditions.size(); k++) {
                int was = conditions.get(k)[2];
                int all = 0;
                int[] least = new int[8];
                int[] greatest = new int[8];
                java.util.Arrays.fill(least, -2);
                java.util.Arrays.fill(greatest, -2);
                for (int n = 0; n <= 20; n++) {
                    conditions.get(k)[2] = n;
                    int reached = new Regions(told, told.start, new int[3], -1, false).reached;
                    for (int goal = 0; goal < told.places; goal++) {
                        if ((reached >> goal & 1) == 1) {
                            least[goal] = least[goal] == -2 ? n : least[goal];
                            greatest[goal] = n;
                        }
                    }
                }
                conditions.get(k)[2] = was;
                for (int goal = 0; goal < told.places; goal++) {
                    String call = "lets(" + edge + ", " + k + ", " + goal + ") of " + told.text();
                    Check.same(call, x.lets(edge, k, goal, 0), least[goal]);
                    Check.same(call, x.lets(edge, k, goal, 1), greatest[goal]);
                }
                Check.same("N behind lets", x.condition(edge, k, 2), was);
            }
        }
    }

    private static void soon(Told told, ClockReach x) {
        PlainGraph plain = new PlainGraph(told, 2, true, told.start, new int[told.clocks + 2], 400);
        Regions regions = new Regions(told, told.start, new int[3], -1, true);
        for (int p = 0; p < told.places; p++) {
            String call = "soonest(" + p + ") of " + told.text();
            if (plain.full) {
                Check.same(call, x.soonest(p, 0), -2);
                Check.same(call, x.soonest(p, 1), -2);
            } else if (regions.soonest[p] > 120) {
                Check.same(call, x.soonest(p, 0), -1);
                Check.same(call, x.soonest(p, 1), -1);
            } else {
                Check.same(call, x.soonest(p, 0), regions.soonest[p] / 2);
                Check.same(call, x.soonest(p, 1), regions.soonest[p] % 2 == 0 ? 1 : 0);
            }
        }
    }
}
