/** Promises 33, 34: days by draws, against the same days lived act by act. */
public final class DayTests {
    private static int x;

    public static void main(String[] args) {
        wrongOnes();
        againstActs();
        oneByHand();
        odds();
        oddsAtTheEnd();
        Check.end();
    }

    private static int draw(int n) {
        x = x * 1103515245 + 12345;
        return (x >>> 8) % n;
    }

    /** One drawn DAY by the face's own acts. */
    static void liveDay(TurretViews v) {
        if (draw(12) == 0) {
            v.storm(draw(60) + 1);
        }
        for (int p = 0; p < v.count(1); p++) {
            int act = draw(4);
            if (act < 2) {
                if (v.count(0) > 0) {
                    v.climb(p, draw(v.count(0)));
                }
            } else if (act == 2) {
                v.land(p);
            } else {
                int q = draw(v.count(1));
                v.tell(p, q, draw(8));
            }
        }
        v.days(1);
    }

    static void alike(String what, TurretViews a, TurretViews b) {
        for (int i = 0; i < 7; i++) {
            Check.is(what + " now(" + i + ")", a.now(i), b.now(i));
        }
        for (int p = 0; p < b.count(1); p++) {
            for (int i = 0; i < 7; i++) {
                Check.is(what + " person(" + p + ", " + i + ")", a.person(p, i), b.person(p, i));
            }
        }
        for (int t = 0; t < b.count(0); t++) {
            for (int i = 0; i < 7; i++) {
                Check.is(what + " turret(" + t + ", " + i + ")", a.turret(t, i), b.turret(t, i));
            }
        }
    }

    private static void wrongOnes() {
        TurretViews v = Check.of(StateTests.SUBURB);
        Check.is("drawn(0, 1)", v.drawn(0, 1), -1);
        Check.is("drawn(61, 1)", v.drawn(61, 1), -1);
        Check.is("drawn(-1, 1)", v.drawn(-1, 1), -1);
        Check.is("the day", v.now(0), 0);
        Check.is("odds(3, 1, 1)", v.odds(3, 1, 1), -1);
        Check.is("odds(-1, 1, 1)", v.odds(-1, 1, 1), -1);
        Check.is("odds(0, 0, 1)", v.odds(0, 0, 1), -1);
        Check.is("odds(0, 31, 1)", v.odds(0, 31, 1), -1);
    }

    private static void againstActs() {
        String[] suburbs = {StateTests.SUBURB, "person a 5;person b 5;thinks a sea;thinks b duty;", "turret t bow tea 60 vane;", "",
            "turret t slit sea 9;person a 60;person b 60;wants a sea;",
            "turret t bow tea 60 vane;turret u slit duty 3;person a 60;person b 60;person c 60;person d 9;wants a tea;"};
        int[] seeds = {0, 1, -1, 12345, Integer.MAX_VALUE, Integer.MIN_VALUE, 987654321};
        for (String suburb : suburbs) {
            for (int seed : seeds) {
                for (int n = 1; n <= 60; n += 59) {
                    TurretViews a = Check.of(suburb);
                    TurretViews b = Check.of(suburb);
                    Check.is("drawn(" + n + ", " + seed + ")", a.drawn(n, seed), n);
                    x = seed;
                    for (int i = 0; i < n; i++) {
                        liveDay(b);
                    }
                    alike("seed " + seed, a, b);
                }
            }
        }
    }

    private static void oneByHand() {
        // seed 0: x = 12345, 12345 >>> 8 = 48, 48 % 12 = 0: a storm of the next draw of 60 and 1
        int second = 12345 * 1103515245 + 12345;
        int storm = (second >>> 8) % 60 + 1;
        TurretViews v = Check.of("turret t slit sea 60;");
        Check.is("drawn(1, 0)", v.drawn(1, 0), 1);
        Check.is("the storm", v.turret(0, 2), storm);
        TurretViews w = Check.of(StateTests.SUBURB);
        for (int i = 0; i < 6; i++) {
            w.days(60);
        }
        w.days(30);
        Check.is("the days left", w.drawn(60, 5), 10);
        Check.is("all over", w.now(0), 400);
        int climbs = w.now(5);
        Check.is("none left", w.drawn(60, 6), 0);
        Check.is("nobody climbed", w.now(5), climbs);
    }

    private static void odds() {
        TurretViews v = Check.of(StateTests.SUBURB);
        v.climb(0, 1);
        v.image(0);
        int[] seeds = {3, -2, Integer.MAX_VALUE - 4};
        for (int p = 0; p < 3; p++) {
            for (int seed : seeds) {
                int due = 0;
                for (int i = 0; i < 30; i++) {
                    v.restore(0);
                    v.drawn(20, seed + i);
                    due += v.now(3) >> p & 1;
                    if (i == 0 || i == 29) {
                        v.restore(0);
                        Check.is("odds(" + p + ", " + (i + 1) + ", " + seed + ")", v.odds(p, i + 1, seed), due);
                    }
                }
            }
        }
        v.restore(0);
        TurretViews w = Check.of(StateTests.SUBURB);
        w.climb(0, 1);
        v.odds(0, 30, 9);
        alike("odds change nothing", v, w);
        Check.is("odds are no act", v.undo(), -1);
    }

    private static void oddsAtTheEnd() {
        TurretViews v = Check.of("turret t slit sea 5;person p 9;person q 9;wants p sea;");
        for (int i = 0; i < 7; i++) {
            v.days(60);
        }
        Check.is("no days left, p", v.odds(0, 30, 1), 0);
        Check.is("no days left, q", v.odds(1, 30, 1), 30);
    }
}
