/** Promises 6, 7, 8, 9. */
public final class StateTests {
    static final String SUBURB = "turret s slit sea 5;turret b bow tea 20;turret r round dogs 45;"
        + "turret o octagon war 10 vane;person ann 30;person bo 60;person cid 0;thinks ann duty;thinks ann war;"
        + "thinks bo love;wants ann sea;wants ann tea;wants bo tea;wants cid sea;";

    public static void main(String[] args) {
        person();
        canClimb();
        friends();
        turret();
        looks();
        now();
        full();
        Check.end();
    }

    private static final String FULL = "turret ta slit duty 10 vane;turret tb bow sea 10 vane;turret tc round tea 10 vane;"
        + "turret td octagon dogs 10 vane;turret te slit love 10 vane;turret tf bow war 10 vane;turret tg slit music 10 vane;"
        + "person pa 60;person pb 60;person pc 60;person pd 60;person pe 60;person pf 60;"
        + "thinks pa duty;thinks pb duty;thinks pc duty;thinks pd tea;thinks pe tea;thinks pf tea;wants pf music;";

    /** As many as there can be, and then fewer: no place too many is looked at. */
    private static void full() {
        TurretViews x = Check.of(FULL);
        Check.is("the last one climbs the last one", x.climb(5, 6), 0);
        Check.is("pe climbs", x.climb(4, 5), 0);
        Check.is("friends of pa", x.person(0, 6), 2 + 4);
        Check.is("friends of pf", x.person(5, 6), 8 + 16);
        Check.is("pa can climb", x.person(0, 5), 31);
        Check.is("climbs", x.now(5), 2);
        Check.is("views", x.now(6), 3 + 1 + 4 + 2);
        Check.is("pleased", x.now(3), 63);
        Check.is("mild", x.now(2), 0);
        Check.is("ask", x.ask(), 0);
        Check.is("storm", x.storm(9), 0);
        Check.is("the last one's height", x.turret(6, 2), 9);
        Check.is("soonest", x.soonest(5), 0);
        Check.is("party", x.party(), 6);
        Check.is("cover", x.cover(), 1);
        Check.is("tea", x.tea(), 2);
        Check.is("days", x.days(1), 1);
        Check.is("the last one's view", x.turret(6, 1), 7);
        Check.is("drawn", x.drawn(60, 3), 60);
        Check.is("odds", x.odds(0, 1, 1), 1);
        Check.is("fewer", Check.suburb(x, "turret ta slit sea 5;person pa 9;thinks pa duty;wants pa sea;"), 4);
        DayTests.alike("fewer behind many", x, Check.of("turret ta slit sea 5;person pa 9;thinks pa duty;wants pa sea;"));
        Check.is("no climbs", x.now(5), 0);
        Check.is("one view", x.now(6), 1);
        Check.is("no friends", x.person(0, 6), 0);
        Check.is("nobody is pleased", x.now(3), 0);
        Check.is("no storm", x.storm(5), 1);
        Check.is("by one climb", x.soonest(0), 1);
        Check.is("one alone hears nobody", x.tea(), 1);
        Check.is("he has duty", x.teaOf(0), 1);
        Check.is("made", Check.made(x, 0, 2), 3);
        Check.is("not covered", x.cover(), -1);
    }

    private static void person() {
        TurretViews x = Check.of(SUBURB);
        Check.is("ann has", x.person(0, 0), 1 + 32);
        Check.is("ann wants", x.person(0, 1), 2 + 128);
        Check.is("bo's nerve", x.person(1, 2), 60);
        Check.is("bo is down", x.person(1, 3), -1);
        Check.is("bo climbed", x.person(1, 4), 0);
        x.climb(1, 2);
        Check.is("bo is up", x.person(1, 3), 2);
        Check.is("bo has", x.person(1, 0), 1 + 2 + 4 + 128);
        Check.is("bo climbed once", x.person(1, 4), 1);
        x.land(1);
        x.climb(1, 2);
        Check.is("bo climbed twice", x.person(1, 4), 2);
        Check.throwsNone("person(3, 0)", x, 3, 0);
        Check.throwsNone("person(-1, 0)", x, -1, 0);
        Check.throwsNone("person(0, 7)", x, 0, 7);
        Check.throwsNone("person(0, -1)", x, 0, -1);
        Check.throwsNone("person(3, 7)", x, 3, 7);
    }

    private static void canClimb() {
        TurretViews x = Check.of(SUBURB);
        Check.is("ann can climb", x.person(0, 5), 1 + 2 + 8);
        Check.is("bo can climb", x.person(1, 5), 15);
        Check.is("cid can climb", x.person(2, 5), 0);
        x.climb(0, 1);
        Check.is("ann up there can", x.person(0, 5), 1 + 2 + 8);
        Check.is("bo can't climb where ann is", x.person(1, 5), 1 + 4 + 8);
        x.wall(0);
        Check.is("ann can't climb a walled one", x.person(0, 5), 2 + 8);
        x.storm(30);
        Check.is("what is as high as his nerve can be climbed", x.person(0, 5), 2 + 4 + 8);
    }

    private static void friends() {
        TurretViews x = Check.of("person a 1;person b 1;person c 1;person d 1;person e 1;"
            + "thinks a sea;thinks a tea;thinks b sea;thinks c sea;thinks c dogs;thinks d duty;thinks e tea;thinks e duty;");
        Check.is("friends of a", x.person(0, 6), 2 + 16);
        Check.is("friends of b", x.person(1, 6), 1 + 4);
        Check.is("friends of c", x.person(2, 6), 2);
        Check.is("friends of d", x.person(3, 6), 16);
        Check.is("friends of e", x.person(4, 6), 1 + 8);
    }

    private static void turret() {
        TurretViews x = Check.of(SUBURB);
        int[][] due = {
            {0, 1, 5, 0, 0, -1, 2}, {1, 7, 20, 0, 0, -1, 128 + 64 + 1},
            {2, 3, 45, 0, 0, -1, 255}, {3, 5, 10, 1, 0, -1, 255}};
        for (int t = 0; t < 4; t++) {
            for (int what = 0; what < 7; what++) {
                Check.is("turret(" + t + ", " + what + ")", x.turret(t, what), due[t][what]);
            }
            Check.is("turret(.., 7)", x.turret(t, 7), -1);
            Check.is("turret(.., -1)", x.turret(t, -1), -1);
        }
        Check.is("turret(4, 0)", x.turret(4, 0), -1);
        Check.is("turret(-1, 0)", x.turret(-1, 0), -1);
        x.climb(1, 1);
        x.wall(0);
        x.days(2);
        x.storm(7);
        Check.is("bo is up there", x.turret(1, 5), 1);
        Check.is("walled", x.turret(0, 4), 1);
        Check.is("turned", x.turret(3, 1), 7);
        Check.is("not turned", x.turret(1, 1), 7);
        Check.is("lower", x.turret(3, 2), 7);
        x.days(1);
        Check.is("turned all round", x.turret(3, 1), 0);
    }

    private static void looks() {
        TurretViews x = Check.of(SUBURB + "turret c bow duty 5;turret d round tea 5;");
        int[][] due = {{1}, {7, 6, 0}, {3, 4, 5, 6, 7, 0, 1, 2}, {5, 4, 3, 2, 1, 0, 7, 6}, {0, 7, 1},
            {7, 0, 1, 2, 3, 4, 5, 6}};
        for (int t = 0; t < due.length; t++) {
            for (int k = 0; k < 9; k++) {
                Check.is("looks(" + t + ", " + k + ")", x.looks(t, k), k < due[t].length ? due[t][k] : -1);
            }
            Check.is("looks(.., -1)", x.looks(t, -1), -1);
        }
        Check.is("looks(6, 0)", x.looks(6, 0), -1);
        Check.is("looks(-1, 0)", x.looks(-1, 0), -1);
    }

    private static void now() {
        TurretViews x = Check.of(SUBURB);
        int[] first = {0, 0, 4, 0, 0, 0, 3, -1};
        for (int what = 0; what < 8; what++) {
            Check.is("now(" + what + ")", x.now(what), first[what]);
        }
        x.climb(0, 3);
        x.climb(1, 1);
        x.wall(2);
        x.wall(0);
        x.days(5);
        int[] then = {5, 3, 4, 3, 5, 2, 4 + 3, -1};
        for (int what = 0; what < 8; what++) {
            Check.is("then now(" + what + ")", x.now(what), then[what]);
        }
        Check.is("now(-1)", x.now(-1), -1);
        x = Check.of("turret t slit sea 5;person a 9;person b 9;person c 9;person d 9;person e 9;person f 9;thinks b tea;"
            + "thinks e sea;wants c sea;wants f tea;");
        x.climb(5, 0);
        Check.is("who is up", x.now(1), 32);
        Check.is("who is mild", x.now(2), 1 + 4 + 8);
        Check.is("who is pleased", x.now(3), 1 + 2 + 8 + 16);
    }
}
