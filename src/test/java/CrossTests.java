import java.util.Random;

/** Promises 18 to 30 on many suburbs, each against the plainest way to find the answer by other calls. */
public final class CrossTests {
    private static final String[] SHAPES = {"slit", "bow", "round", "octagon"};
    private static final String[] VIEWS = {"duty", "sea", "thrift", "dogs", "love", "war", "music", "tea"};

    public static void main(String[] args) {
        // one row of draws for all: the first draws of seeds side by side are nearly alike
        Random random = new Random(1);
        for (int run = 0; run < 400; run++) {
            TurretViews x = Check.of(suburb(random));
            for (int i = 0; i < 12; i++) {
                act(x, random);
            }
            soonest(x);
            party(x);
            made(x, random);
            cover(x);
            ask(x);
            tea(x);
            when(x);
        }
        Check.end();
    }

    private static String suburb(Random random) {
        StringBuilder text = new StringBuilder();
        int turrets = random.nextInt(8);
        int persons = random.nextInt(7);
        for (int t = 0; t < turrets; t++) {
            int shape = random.nextInt(3) == 0 ? random.nextInt(4) : random.nextInt(2);
            text.append("turret t").append((char) ('a' + t)).append(' ').append(SHAPES[shape]).append(' ')
                .append(VIEWS[random.nextInt(8)]).append(' ').append(1 + random.nextInt(30))
                .append(random.nextBoolean() ? " vane;" : ";");
        }
        for (int p = 0; p < persons; p++) {
            text.append("person p").append((char) ('a' + p)).append(' ').append(random.nextInt(50)).append(';');
            for (int v = 0; v < 4; v++) {
                if (random.nextInt(3) == 0) {
                    text.append("thinks p").append((char) ('a' + p)).append(' ').append(VIEWS[v + 4 * random.nextInt(2)]).append(';');
                }
                if (random.nextInt(2) == 0) {
                    text.append("wants p").append((char) ('a' + p)).append(' ').append(VIEWS[v + 4 * random.nextInt(2)]).append(';');
                }
            }
        }
        return text.toString();
    }

    private static void act(TurretViews x, Random random) {
        int p = random.nextInt(6);
        int t = random.nextInt(7);
        switch (random.nextInt(7)) {
            case 0: x.climb(p, t); break;
            case 1: x.land(p); break;
            case 2: x.tell(p, random.nextInt(6), random.nextInt(8)); break;
            case 3: x.wall(random.nextInt(20)); break;
            case 4: x.unwall(t); break;
            case 5: x.days(1 + random.nextInt(5)); break;
            default: x.climb(p, random.nextInt(7)); break;
        }
    }

    /** The first row of a length by trying all, TURRET by TURRET; null without one. */
    private static int[] firstRow(TurretViews x, int p, int views, int length) {
        if (length == 0) {
            return (views & x.person(p, 1)) == x.person(p, 1) ? new int[0] : null;
        }
        for (int t = 0; t < x.count(0); t++) {
            if ((x.person(p, 5) >> t & 1) == 1) {
                int[] rest = firstRow(x, p, x.behind(views, t), length - 1);
                if (rest != null) {
                    int[] row = new int[length];
                    row[0] = t;
                    System.arraycopy(rest, 0, row, 1, length - 1);
                    return row;
                }
            }
        }
        return null;
    }

    private static void soonest(TurretViews x) {
        for (int p = 0; p < x.count(1); p++) {
            int[] row = null;
            // as there are four pairs of VIEWS, and each climb may settle one, four climbs find most rows
            for (int length = 0; length <= 5 && row == null; length++) {
                row = firstRow(x, p, x.person(p, 0), length);
            }
            int got = x.soonest(p);
            Check.is("soonest", got, row == null ? -1 : row.length);
            for (int k = 0; row != null && k <= row.length; k++) {
                Check.is("soonestAt", x.soonestAt(k), k < row.length ? row[k] : -1);
            }
        }
    }

    private static int[] bestParty;
    private static int bestPleased;

    private static void tryParty(TurretViews x, int[] row, int p, int taken, int pleased) {
        if (p == row.length) {
            if (pleased > bestPleased) {
                bestPleased = pleased;
                bestParty = row.clone();
            }
            return;
        }
        int wants = x.person(p, 1);
        int can = x.person(p, 5) & ~taken;
        for (int t = 0; t < 7; t++) {
            if ((can >> t & 1) == 1) {
                row[p] = t;
                int then = x.behind(x.person(p, 0), t);
                tryParty(x, row, p + 1, taken | 1 << t, pleased + ((then & wants) == wants ? 1 : 0));
            }
        }
        row[p] = -1;
        tryParty(x, row, p + 1, taken, pleased + ((x.person(p, 0) & wants) == wants ? 1 : 0));
    }

    private static void party(TurretViews x) {
        bestPleased = -1;
        tryParty(x, new int[x.count(1)], 0, 0, 0);
        Check.is("party", x.party(), bestPleased);
        for (int p = 0; p < 7; p++) {
            Check.is("partyOf", x.partyOf(p), p < bestParty.length ? bestParty[p] : -1);
        }
    }

    private static void made(TurretViews x, Random random) {
        int ahead = random.nextInt(256);
        int due = ahead;
        for (int i = random.nextInt(4); i > 0 && x.count(0) > 0; i--) {
            due = x.behind(due, random.nextInt(x.count(0)));
        }
        int many = 0;
        int[] first = null;
        int n = x.count(0);
        for (int length = 1; length <= 3; length++) {
            for (int a = 0; a < n; a++) {
                for (int b = 0; b < (length > 1 ? n : 1); b++) {
                    for (int c = 0; c < (length > 2 ? n : 1); c++) {
                        int views = x.behind(ahead, a);
                        views = length > 1 ? x.behind(views, b) : views;
                        views = length > 2 ? x.behind(views, c) : views;
                        if (views == due) {
                            many++;
                            first = first == null ? new int[] {a, length > 1 ? b : -1, length > 2 ? c : -1} : first;
                        }
                    }
                }
            }
        }
        Check.is("made", Check.made(x, ahead, due), many);
        for (int k = 0; k < 4; k++) {
            Check.is("madeAt", x.madeAt(k), first == null || k == 3 ? -1 : first[k]);
        }
    }

    private static void cover(TurretViews x) {
        int best = -1;
        for (int set = 127; set >= 0; set--) {
            int seen = 0;
            boolean can = set < 1 << x.count(0);
            for (int t = 0; t < x.count(0); t++) {
                if ((set >> t & 1) == 1) {
                    can &= x.turret(t, 4) == 0;
                    seen |= x.turret(t, 6);
                }
            }
            if (can && seen == 255 && (best == -1 || Integer.bitCount(set) <= Integer.bitCount(best))) {
                best = set;
            }
        }
        Check.is("cover", x.cover(), best == -1 ? -1 : Integer.bitCount(best));
        Check.is("covering", x.covering(), best);
    }

    private static void ask(TurretViews x) {
        int due = -1;
        int fewest = 99;
        for (int v = 0; v < 8 && x.count(1) > 0; v++) {
            int yes = 0;
            int no = 0;
            for (int p = 0; p < x.count(1); p++) {
                if ((x.person(p, 0) >> v & 1) == 1) {
                    yes++;
                } else {
                    no++;
                }
            }
            int most = yes > no ? yes : no;
            if (most < fewest) {
                fewest = most;
                due = v;
            }
        }
        Check.is("ask", x.ask(), due);
    }

    private static void tea(TurretViews x) {
        int n = x.count(1);
        boolean[][] has = new boolean[n][8];
        for (int p = 0; p < n; p++) {
            for (int v = 0; v < 8; v++) {
                has[p][v] = (x.person(p, 0) >> v & 1) == 1;
            }
        }
        int rounds = 0;
        boolean changed = true;
        while (changed && rounds < 10) {
            rounds++;
            changed = false;
            for (int p = 0; p < n; p++) {
                for (int v = 0; v < 4 && x.person(p, 3) == -1; v++) {
                    int yes = 0;
                    int no = 0;
                    for (int q = 0; q < n; q++) {
                        if (q != p && x.person(q, 3) == -1) {
                            yes += has[q][v] ? 1 : 0;
                            no += has[q][v + 4] ? 1 : 0;
                        }
                    }
                    int takes = yes > no ? v : no > yes ? v + 4 : -1;
                    if (takes >= 0) {
                        int drops = (takes + 4) % 8;
                        changed |= !has[p][takes] || has[p][drops];
                        has[p][takes] = true;
                        has[p][drops] = false;
                    }
                }
            }
        }
        Check.is("tea", x.tea(), rounds);
        for (int p = 0; p < n; p++) {
            int bits = 0;
            for (int v = 0; v < 8; v++) {
                bits |= has[p][v] ? 1 << v : 0;
            }
            Check.is("teaOf", x.teaOf(p), bits);
        }
    }

    private static void when(TurretViews x) {
        for (int t = 0; t < x.count(0); t++) {
            for (int v = 0; v < 8; v++) {
                int due = -1;
                for (int d = 0; d < 9 && due == -1; d++) {
                    int first = x.turret(t, 1) + (x.turret(t, 3) == 1 ? d : 0);
                    due = first % 8 == v ? d : -1;
                }
                Check.is("when", x.when(t, v), due);
            }
        }
    }
}
