/** Parts 2 and 3 of the document's terms, each sentence that names an edge by a test of its own. */
public final class RuleEdgeTests {
    private static final String[] VIEWS = {"duty", "sea", "thrift", "dogs", "love", "war", "music", "tea"};

    public static void main(String[] args) {
        looking();
        climbing();
        otherActs();
        days();
        climbsOfOneDay();
        company();
        drawing();
        newSuburb();
        Check.end();
    }

    private static void looking() {
        slitLooksAtOne();
        bowLooksAllRound();
        roundGoesOn();
        octagonGoesBack();
        oneHasNoMoreTheOpposite();
        oneBehindTheOther();
    }

    private static void climbing() {
        climbLeastReason();
        climbAsHighAsHisNerve();
        climbWithoutNerve();
        refusedClimbChangesNothing();
    }

    private static void otherActs() {
        landWhoIsDown();
        tellLeastReason();
        tellTakesTheOppositeAway();
        stormAtTheHighest();
        stormTakesTopsOff();
        wallLeastReason();
        unwallWhatIsOpen();
    }

    private static void days() {
        vaneGoesAllRound();
        withoutAVaneItStays();
        dayFourHundred();
        actsOnDayFourHundred();
    }

    private static void climbsOfOneDay() {
        canWhereHeIsHimself();
        canNotWhereAnotherIs();
        canNotWalledNorHigher();
        soonestOfWhoHasAll();
        soonestOfLikeOnes();
        soonestOfWhoIsUp();
        soonestDoesNotTurnVanes();
        madeOfAlikeOnes();
        madeByFourIsNone();
        madeByWalledHighAndTaken();
        madeOfJustThose();
        askOfLikeOnes();
        askOfOneAlone();
        coverOfLikeOnes();
        coverWithoutWalled();
        coverByOne();
    }

    private static void company() {
        partyToUnlikeOnes();
        partyNoneBehindAll();
        partyOfWhoIsUp();
        partyWithoutTurrets();
        partyWouldLose();
        teaOfNobodyElse();
        teaOfAsMany();
        teaWithoutThoseUp();
        teaPersonByPerson();
        teaForEachOfTheFirstFour();
        teaChangesNothing();
        friendsNotHimself();
        friendsOfTheMild();
        friendsWithoutOpposites();
        cardOfNothing();
        cardByNumber();
        cardOfWhoIsUp();
    }

    private static void drawing() {
        drawWrapsAround();
        drawnStorms();
        drawnWithoutTurrets();
        drawnLandings();
        drawnActsThatCanNotBe();
        drawnToTheEnd();
    }

    // ---- part 2

    /** "a slit at that alone" */
    private static void slitLooksAtOne() {
        for (int v = 0; v < 8; v++) {
            TurretViews x = Check.of("turret t slit " + VIEWS[v] + " 5;");
            Check.is("its view", x.looks(0, 0), v);
            Check.is("no other", x.looks(0, 1), -1);
            Check.is("as bits", x.turret(0, 6), 1 << v);
        }
    }

    /** "a bow then at the one ahead of it and the one behind it, all round" */
    private static void bowLooksAllRound() {
        for (int v = 0; v < 8; v++) {
            TurretViews x = Check.of("turret t bow " + VIEWS[v] + " 5;");
            int[] due = {v, v == 0 ? 7 : v - 1, v == 7 ? 0 : v + 1, -1};
            for (int k = 0; k < 4; k++) {
                Check.is("a bow's " + k, x.looks(0, k), due[k]);
            }
            Check.is("as bits", x.turret(0, 6), 1 << due[0] | 1 << due[1] | 1 << due[2]);
        }
    }

    /** "at all eight, a round one from its VIEW on" */
    private static void roundGoesOn() {
        for (int v = 0; v < 8; v++) {
            TurretViews x = Check.of("turret t round " + VIEWS[v] + " 5;");
            int due = v;
            for (int k = 0; k < 8; k++) {
                Check.is("a round one's " + k, x.looks(0, k), due);
                due = due == 7 ? 0 : due + 1;
            }
            Check.is("no ninth", x.looks(0, 8), -1);
            Check.is("as bits", x.turret(0, 6), 255);
        }
    }

    /** "an octagon from it back" */
    private static void octagonGoesBack() {
        for (int v = 0; v < 8; v++) {
            TurretViews x = Check.of("turret t octagon " + VIEWS[v] + " 5;");
            int due = v;
            for (int k = 0; k < 8; k++) {
                Check.is("an octagon's " + k, x.looks(0, k), due);
                due = due == 0 ? 7 : due - 1;
            }
            Check.is("no ninth", x.looks(0, 8), -1);
            Check.is("as bits", x.turret(0, 6), 255);
        }
    }

    /** "To HAVE a VIEW: one has no more the OPPOSITE one." */
    private static void oneHasNoMoreTheOpposite() {
        for (int v = 0; v < 8; v++) {
            TurretViews x = Check.of("turret t slit " + VIEWS[v] + " 5;person p 5;thinks p " + VIEWS[(v + 4) % 8] + ";");
            Check.is("climb", x.climb(0, 0), 0);
            Check.is("just the one", x.person(0, 0), 1 << v);
            Check.is("of all", x.behind(255, 0), 255 - (1 << (v + 4) % 8));
            Check.is("what he has he keeps", x.behind(1 << v, 0), 1 << v);
        }
    }

    /** "Who has all of a row of VIEWS has them one behind the other." */
    private static void oneBehindTheOther() {
        // the last four that are looked at are left
        for (int v = 0; v < 8; v++) {
            TurretViews x = Check.of("turret t round " + VIEWS[v] + " 5;turret u octagon " + VIEWS[v] + " 5;");
            int on = 0;
            int back = 0;
            for (int k = 4; k < 8; k++) {
                on |= 1 << (v + k) % 8;
                back |= 1 << (v + 8 - k) % 8;
            }
            Check.is("round", x.behind(255, 0), on);
            Check.is("octagon", x.behind(0, 1), back);
        }
    }

    private static final String ACTS = "turret low slit sea 5;turret high slit tea 50;turret other bow dogs 5;"
        + "person p 20;person q 20;person r 60;thinks p duty;thinks q love;";

    /** "why not, the least: 1 he is up somewhere; 2 somebody is up there; 3 it is walled up; 4 it is HIGHER" */
    private static void climbLeastReason() {
        TurretViews x = Check.of(ACTS);
        x.climb(2, 1);
        x.climb(0, 0);
        x.wall(2);
        Check.is("up, and somebody there, and high", x.climb(0, 1), 1);
        Check.is("up, and walled", x.climb(0, 2), 1);
        Check.is("up there himself", x.climb(0, 0), 1);
        Check.is("somebody there, and high", x.climb(1, 1), 2);
        Check.is("walled", x.climb(1, 2), 3);
        x.land(2);
        x.wall(1);
        Check.is("walled, and high", x.climb(1, 1), 3);
        x.unwall(1);
        Check.is("high", x.climb(1, 1), 4);
    }

    /** "it is HIGHER than his NERVE": as high is not higher */
    private static void climbAsHighAsHisNerve() {
        TurretViews x = Check.of("turret t slit sea 21;person p 20;person q 21;");
        Check.is("one higher", x.climb(0, 0), 4);
        Check.is("as high", x.climb(1, 0), 0);
    }

    private static void climbWithoutNerve() {
        TurretViews x = Check.of("turret t slit sea 1;person p 0;person q 1;");
        Check.is("no nerve at all", x.climb(0, 0), 4);
        Check.is("a little", x.climb(1, 0), 0);
    }

    private static void refusedClimbChangesNothing() {
        TurretViews x = Check.of(ACTS);
        x.climb(0, 1);
        DayTests.alike("refused", x, Check.of(ACTS));
        Check.is("nothing to undo", x.undo(), -1);
    }

    /** "To LAND: 1 he is not up" */
    private static void landWhoIsDown() {
        TurretViews x = Check.of(ACTS);
        Check.is("down", x.land(0), 1);
        x.climb(0, 0);
        Check.is("up", x.land(0), 0);
        Check.is("down again", x.land(0), 1);
        Check.is("another may climb there", x.climb(1, 0), 0);
    }

    /** "1 they are alike, or one is up; 2 he does not have it; 3 the other one has it" */
    private static void tellLeastReason() {
        TurretViews x = Check.of(ACTS + "person s 20;thinks s duty;");
        Check.is("alike, and has it", x.tell(0, 0, 0), 1);
        Check.is("alike, and does not have it", x.tell(0, 0, 5), 1);
        Check.is("does not have it, the other one has", x.tell(1, 0, 0), 2);
        Check.is("neither has it", x.tell(0, 1, 6), 2);
        Check.is("the other one has it", x.tell(0, 3, 0), 3);
        x.climb(2, 1);
        Check.is("he is up, and does not have it", x.tell(2, 0, 0), 1);
        Check.is("the other one is up", x.tell(0, 2, 0), 1);
        Check.is("the other one is up, and he does not have it", x.tell(0, 2, 5), 1);
    }

    /** "that one HAS it" */
    private static void tellTakesTheOppositeAway() {
        TurretViews x = Check.of(ACTS);
        Check.is("tell", x.tell(0, 1, 0), 0);
        Check.is("q has duty, no love", x.person(1, 0), 1);
        Check.is("p keeps it", x.person(0, 0), 1);
        Check.is("to the mild", x.tell(1, 2, 0), 0);
        Check.is("r has duty", x.person(2, 0), 1);
    }

    /** "A STORM of N: 1 no TURRET is HIGHER" */
    private static void stormAtTheHighest() {
        TurretViews x = Check.of(ACTS);
        Check.is("as high", x.storm(50), 1);
        Check.is("one lower", x.storm(49), 0);
        Check.is("again", x.storm(49), 1);
        Check.is("no turrets", new TurretViews().storm(1), 1);
    }

    /** "each that is is N HIGH", walled and climbed ones, too */
    private static void stormTakesTopsOff() {
        TurretViews x = Check.of(ACTS);
        x.wall(1);
        x.climb(0, 2);
        Check.is("a storm", x.storm(3), 0);
        for (int t = 0; t < 3; t++) {
            Check.is("high", x.turret(t, 2), 3);
        }
        Check.is("p stays up", x.person(0, 3), 2);
        Check.is("to the ground", x.storm(1), 0);
        Check.is("1 is the least", x.turret(0, 2), 1);
    }

    /** "To WALL a TURRET up: 1 it is; 2 somebody is up there" */
    private static void wallLeastReason() {
        TurretViews x = Check.of(ACTS);
        Check.is("wall", x.wall(0), 0);
        Check.is("it is", x.wall(0), 1);
        x.climb(0, 2);
        Check.is("somebody is up there", x.wall(2), 2);
        Check.is("it is not", x.turret(2, 4), 0);
        x.land(0);
        Check.is("now", x.wall(2), 0);
    }

    /** "To UNWALL it: 1 it is not" */
    private static void unwallWhatIsOpen() {
        TurretViews x = Check.of(ACTS);
        Check.is("it is not", x.unwall(0), 1);
        x.wall(0);
        Check.is("it is", x.unwall(0), 0);
        Check.is("it is not any more", x.unwall(0), 1);
    }

    /** "each TURRET with a vane has the next VIEW, all round" */
    private static void vaneGoesAllRound() {
        TurretViews x = Check.of("turret t slit music 5 vane;");
        int[] due = {6, 7, 0, 1, 2, 3, 4, 5, 6, 7};
        for (int day = 0; day < due.length; day++) {
            Check.is("on day " + day, x.turret(0, 1), due[day]);
            x.days(1);
        }
        TurretViews y = Check.of("turret t slit music 5 vane;");
        y.wall(0);
        y.days(2);
        Check.is("a walled one, too", y.turret(0, 1), 0);
    }

    private static void withoutAVaneItStays() {
        TurretViews x = Check.of("turret t bow tea 5;turret u bow tea 5 vane;");
        x.days(3);
        Check.is("without", x.turret(0, 1), 7);
        Check.is("with", x.turret(1, 1), 2);
        Check.is("it looks anew", x.looks(1, 1), 1);
    }

    private static void toDay(TurretViews x, int day) {
        int left = day;
        while (left > 0) {
            int some = left < 60 ? left : 60;
            x.days(some);
            left -= some;
        }
        Check.is("the day", x.now(0), day);
    }

    /** "A DAY (0 to 399; 400: all are over)" */
    private static void dayFourHundred() {
        TurretViews x = Check.of("turret t slit duty 5 vane;");
        toDay(x, 399);
        Check.is("the last one", x.days(1), 1);
        Check.is("all are over", x.now(0), 400);
        Check.is("the vane went with it", x.turret(0, 1), 0);
        Check.is("none more", x.days(60), 0);
        Check.is("still", x.now(0), 400);
        Check.is("the vane stays", x.turret(0, 1), 0);
    }

    private static void actsOnDayFourHundred() {
        TurretViews x = Check.of(ACTS);
        toDay(x, 400);
        Check.is("climb", x.climb(0, 0), 0);
        Check.is("land", x.land(0), 0);
        Check.is("tell", x.tell(0, 2, 0), 0);
        Check.is("storm", x.storm(7), 0);
        Check.is("wall", x.wall(0), 0);
        Check.is("unwall", x.unwall(0), 0);
    }

    // ---- part 3: climbs

    private static void canWhereHeIsHimself() {
        TurretViews x = Check.of(ACTS);
        x.climb(0, 0);
        Check.is("his own is among them", x.person(0, 5), 1 + 4);
    }

    /** "up which nobody else is" */
    private static void canNotWhereAnotherIs() {
        TurretViews x = Check.of(ACTS);
        x.climb(0, 0);
        Check.is("q", x.person(1, 5), 4);
        Check.is("r", x.person(2, 5), 2 + 4);
    }

    /** "not walled up, nor HIGHER than his NERVE" */
    private static void canNotWalledNorHigher() {
        TurretViews x = Check.of("turret t slit sea 20;turret u slit sea 21;person p 20;");
        Check.is("as high", x.person(0, 5), 1);
        x.storm(20);
        Check.is("both now", x.person(0, 5), 3);
        x.wall(0);
        Check.is("not the walled one", x.person(0, 5), 2);
    }

    /** "0: he has all" */
    private static void soonestOfWhoHasAll() {
        TurretViews x = Check.of("person p 0;person q 0;thinks q sea;wants q sea;");
        Check.is("wants nothing", x.soonest(0), 0);
        Check.is("has it", x.soonest(1), 0);
        Check.is("no climb", x.soonestAt(0), -1);
    }

    /** "of like ones the first: TURRET by TURRET the least" */
    private static void soonestOfLikeOnes() {
        TurretViews x = Check.of("turret a slit dogs 5;turret b slit sea 5;turret c slit tea 5;turret d slit sea 5;turret e slit tea 5;"
            + "person p 5;wants p sea;wants p tea;");
        Check.is("two", x.soonest(0), 2);
        Check.is("b", x.soonestAt(0), 1);
        Check.is("c", x.soonestAt(1), 2);
        x.wall(1);
        Check.is("two", x.soonest(0), 2);
        Check.is("c ahead of d", x.soonestAt(0), 2);
        Check.is("d", x.soonestAt(1), 3);
    }

    private static void soonestOfWhoIsUp() {
        TurretViews x = Check.of("turret a slit sea 5;turret b slit war 5;person p 5;person q 5;wants p sea;");
        x.climb(0, 1);
        Check.is("he lands and climbs", x.soonest(0), 1);
        Check.is("a", x.soonestAt(0), 0);
        x.climb(1, 0);
        Check.is("another is up there", x.soonest(0), -1);
    }

    /** "All of one DAY." */
    private static void soonestDoesNotTurnVanes() {
        TurretViews x = Check.of("turret a slit duty 5 vane;person p 5;wants p sea;");
        Check.is("not today", x.soonest(0), -1);
        x.days(1);
        Check.is("today", x.soonest(0), 1);
    }

    /** "rows of 1 to 3 climbs": alike ones, too */
    private static void madeOfAlikeOnes() {
        TurretViews x = Check.of("turret a slit sea 5;");
        Check.is("a, aa, aaa", Check.made(x, 0, 2), 3);
        Check.is("the fewest is the first", x.madeAt(1), -1);
        Check.is("who has it", Check.made(x, 2, 2), 3);
    }

    private static void madeByFourIsNone() {
        TurretViews x = Check.of("turret a slit duty 5;turret b slit sea 5;turret c slit thrift 5;turret d slit dogs 5;");
        Check.is("three: six rows", Check.made(x, 0, 7), 6);
        Check.is("a", x.madeAt(0), 0);
        Check.is("b", x.madeAt(1), 1);
        Check.is("c", x.madeAt(2), 2);
        Check.is("no fourth", x.madeAt(3), -1);
        Check.is("four would be needed", Check.made(x, 0, 15), 0);
        Check.is("none at all is no row", Check.made(x, 0, 0), 0);
    }

    /** "walled ones, too, NERVE and who is up no matter" */
    private static void madeByWalledHighAndTaken() {
        TurretViews x = Check.of("turret a slit sea 60;turret b slit tea 1;person p 5;");
        x.climb(0, 1);
        x.wall(0);
        Check.is("both", Check.made(x, 0, 2 + 128), 8);
    }

    /** "who had just the ones ahead has just those behind" */
    private static void madeOfJustThose() {
        TurretViews x = Check.of("turret a slit sea 5;");
        Check.is("the opposite one goes", Check.made(x, 32, 2), 3);
        Check.is("another one stays", Check.made(x, 1, 2), 0);
        Check.is("and is there behind", Check.made(x, 1, 3), 3);
        Check.is("all bits", Check.made(x, 255, 255 - 32), 3);
    }

    /** "of like ones the first" */
    private static void askOfLikeOnes() {
        Check.is("nobody has any", Check.of("person p 5;person q 5;").ask(), 0);
        Check.is("two halves", Check.of("person p 5;person q 5;thinks p dogs;thinks q tea;").ask(), 3);
        // by tea 2 of 3 may be left as by dogs
        Check.is("one and two are alike", Check.of("person p 5;person q 5;person r 5;thinks p tea;thinks q dogs;thinks r dogs;").ask(), 3);
    }

    private static void askOfOneAlone() {
        Check.is("one may be left whatever", Check.of("person p 5;thinks p tea;").ask(), 0);
    }

    /** "of like ones the least as bits" */
    private static void coverOfLikeOnes() {
        TurretViews x = Check.of("turret a bow sea 5;turret b bow love 5;turret c bow music 5;turret d bow tea 5;turret e bow war 5;");
        // a: duty sea thrift; b: dogs love war; c: war music tea; d: music tea duty
        Check.is("three", x.cover(), 3);
        Check.is("a, b, c", x.covering(), 7);
        x.wall(2);
        Check.is("three", x.cover(), 3);
        Check.is("a, b, d", x.covering(), 11);
    }

    /** "TURRETS that are not walled up" */
    private static void coverWithoutWalled() {
        TurretViews x = Check.of("turret a round sea 5;");
        Check.is("one", x.cover(), 1);
        x.wall(0);
        Check.is("none", x.cover(), -1);
    }

    private static void coverByOne() {
        TurretViews x = Check.of("turret a bow sea 5;turret b bow love 5;turret c bow music 5;turret d octagon sea 60;");
        Check.is("one is fewer than three", x.cover(), 1);
        Check.is("d", x.covering(), 8);
    }

    // ---- part 3: company

    /** "PERSONS to unlike TURRETS" */
    private static void partyToUnlikeOnes() {
        TurretViews x = Check.of("turret a slit sea 5;person p 5;person q 5;wants p sea;wants q sea;");
        Check.is("one alone", x.party(), 1);
        Check.is("the first one", x.partyOf(0), 0);
        Check.is("not the other one", x.partyOf(1), -1);
    }

    /** "PERSON by PERSON the least TURRET, none behind all" */
    private static void partyNoneBehindAll() {
        TurretViews x = Check.of("turret a slit sea 5;turret b slit tea 5;person p 5;person q 5;");
        Check.is("both want nothing", x.party(), 2);
        Check.is("p has the least", x.partyOf(0), 0);
        Check.is("q has the next", x.partyOf(1), 1);
    }

    /** "who is up himself: as if he was down" */
    private static void partyOfWhoIsUp() {
        TurretViews x = Check.of("turret a slit sea 5;turret b slit tea 5;person p 5;person q 5;wants p tea;");
        x.climb(0, 0);
        Check.is("both", x.party(), 2);
        Check.is("p climbs b", x.partyOf(0), 1);
        Check.is("a is p's, who is up there", x.partyOf(1), -1);
    }

    /** "who has none to climb, has what he has now" */
    private static void partyWithoutTurrets() {
        TurretViews x = Check.of("person p 5;person q 5;thinks q sea;wants q sea;wants p tea;");
        Check.is("q alone", x.party(), 1);
        Check.is("p", x.partyOf(0), -1);
        Check.is("q", x.partyOf(1), -1);
    }

    private static void partyWouldLose() {
        TurretViews x = Check.of("turret a slit war 5;person p 5;thinks p sea;wants p sea;");
        Check.is("he keeps what he has", x.party(), 1);
        Check.is("none", x.partyOf(0), -1);
    }

    private static void teaOfNobodyElse() {
        TurretViews x = Check.of("person p 5;thinks p sea;");
        Check.is("one ROUND", x.tea(), 1);
        Check.is("he keeps it", x.teaOf(0), 2);
        Check.is("nobody at all", new TurretViews().tea(), 1);
    }

    /** "if more have it than its OPPOSITE one .. if fewer": as many change nothing */
    private static void teaOfAsMany() {
        TurretViews x = Check.of("person p 5;person q 5;person r 5;thinks q sea;thinks r war;");
        // p hears one of each; q hears r's war alone
        Check.is("three ROUNDS", x.tea(), 3);
        Check.is("p", x.teaOf(0), 32);
        Check.is("q", x.teaOf(1), 32);
        Check.is("r", x.teaOf(2), 32);
    }

    /** "of PERSONS who are down", "of the others who are down" */
    private static void teaWithoutThoseUp() {
        TurretViews x = Check.of("turret t slit duty 5;person p 5;person q 5;person r 5;thinks p sea;thinks q war;");
        x.climb(0, 0);
        Check.is("two ROUNDS", x.tea(), 2);
        Check.is("p is up", x.teaOf(0), 1 + 2);
        Check.is("q", x.teaOf(1), 32);
        Check.is("r", x.teaOf(2), 32);
    }

    private static void teaPersonByPerson() {
        TurretViews x = Check.of("person p 5;person q 5;thinks p sea;thinks q war;");
        Check.is("two ROUNDS", x.tea(), 2);
        Check.is("p takes q's first", x.teaOf(0), 32);
        Check.is("q hears it from p", x.teaOf(1), 32);
    }

    /** "for each of the first four VIEWS", and the OPPOSITE ones by them */
    private static void teaForEachOfTheFirstFour() {
        for (int v = 0; v < 8; v++) {
            TurretViews x = Check.of("person p 5;person q 5;person r 5;thinks p " + VIEWS[v] + ";thinks q " + VIEWS[v] + ";thinks r "
                + VIEWS[(v + 4) % 8] + ";");
            Check.is("two ROUNDS", x.tea(), 2);
            Check.is("r takes " + VIEWS[v], x.teaOf(2), 1 << v);
        }
    }

    /** "None changes anything in the SUBURB." */
    private static void teaChangesNothing() {
        TurretViews x = Check.of(ACTS);
        x.tea();
        x.party();
        x.soonest(0);
        x.cover();
        x.ask();
        Check.made(x, 0, 2);
        x.odds(0, 30, 5);
        x.card(0);
        x.when(0, 3);
        x.behind(0, 0);
        DayTests.alike("all stays", x, Check.of(ACTS));
        Check.is("nothing to undo", x.undo(), -1);
    }

    /** "(not himself)" */
    private static void friendsNotHimself() {
        TurretViews x = Check.of("person p 5;thinks p sea;");
        Check.is("alone", x.person(0, 6), 0);
    }

    /** "and some one that he has, too" */
    private static void friendsOfTheMild() {
        TurretViews x = Check.of("person p 5;person q 5;person r 5;thinks r sea;");
        for (int p = 0; p < 3; p++) {
            Check.is("no friends", x.person(p, 6), 0);
        }
    }

    /** "who has no VIEW that is OPPOSITE to one of his" */
    private static void friendsWithoutOpposites() {
        TurretViews x = Check.of("person p 5;person q 5;person r 5;thinks p sea;thinks p tea;thinks q sea;thinks q dogs;thinks r sea;");
        Check.is("of p", x.person(0, 6), 4);
        Check.is("of q", x.person(1, 6), 4);
        Check.is("of r", x.person(2, 6), 3);
    }

    /** "or ' nothing'" */
    private static void cardOfNothing() {
        TurretViews x = Check.of("turret t slit sea 5;person p 5;");
        Check.is("its bytes", x.card(0), 16);
        Check.yes("p thinks nothing", Check.cardOf(x, 0).equals("p thinks nothing"));
    }

    /** "for each VIEW that he has, by number" */
    private static void cardByNumber() {
        TurretViews x = Check.of("person abcdefg 5;thinks abcdefg tea;thinks abcdefg music;thinks abcdefg sea;thinks abcdefg duty;");
        Check.yes("by number", Check.cardOf(x, 0).equals("abcdefg thinks duty sea music tea"));
    }

    /** "' on ' and the TURRET's NAME, if he is up" */
    private static void cardOfWhoIsUp() {
        TurretViews x = Check.of("turret z slit sea 5;turret zzzzzzz slit love 5;person p 5;");
        x.climb(0, 1);
        Check.yes("up", Check.cardOf(x, 0).equals("p on zzzzzzz thinks love"));
        x.land(0);
        Check.yes("down", Check.cardOf(x, 0).equals("p thinks love"));
    }

    // ---- part 3: draws

    private static int seed;

    private static int draw(int n) {
        seed = seed * 1103515245 + 12345;
        return (seed >>> 8) % n;
    }

    /** The acts of one PERSON on one DAY, by the draws themselves. */
    private static void drawWrapsAround() {
        for (int first : new int[] {Integer.MAX_VALUE, Integer.MIN_VALUE, -1, 0, 1, 1 << 30}) {
            seed = first;
            TurretViews x = Check.of("turret t slit sea 60;turret u slit tea 60;person p 60;");
            Check.is("drawn", x.drawn(1, first), 1);
            boolean storm = draw(12) == 0;
            int high = storm ? draw(60) + 1 : 60;
            int act = draw(4);
            int up = act < 2 ? draw(2) : -1;
            Check.is("high", x.turret(0, 2), high);
            Check.is("up", x.person(0, 3), up);
        }
    }

    /** "a draw of 12: 0: a draw of 60 (and 1): a STORM of that" */
    private static void drawnStorms() {
        int storms = 0;
        for (int first = 0; first < 200; first++) {
            seed = first * 7919;
            int due = draw(12) == 0 ? draw(60) + 1 : 60;
            TurretViews x = Check.of("turret t slit sea 60;");
            x.drawn(1, first * 7919);
            Check.is("high", x.turret(0, 2), due);
            storms += due < 60 ? 1 : 0;
        }
        Check.yes("there were some", storms > 5);
    }

    /** "(none: no draw)" */
    private static void drawnWithoutTurrets() {
        int told = 0;
        for (int i = 1; i < 200; i++) {
            // seeds side by side have nearly the same first draws
            int first = i * 123456789;
            seed = first;
            TurretViews x = Check.of("person p 5;person q 5;thinks p sea;thinks q duty;");
            x.drawn(1, first);
            if (draw(12) == 0) {
                draw(60);
            }
            int[] has = {2, 1};
            for (int p = 0; p < 2; p++) {
                if (draw(4) == 3) {
                    int q = draw(2);
                    int view = draw(8);
                    if (q != p && (has[p] >> view & 1) == 1) {
                        has[q] |= 1 << view;
                        told++;
                    }
                }
            }
            Check.is("p", x.person(0, 0), has[0]);
            Check.is("q", x.person(1, 0), has[1]);
        }
        Check.yes("some was told", told > 0);
    }

    /** "0 or 1: .. he climbs it; 2: he lands" of one who is up */
    private static void drawnLandings() {
        int landed = 0;
        for (int i = 1; i < 100; i++) {
            int first = i * 123456789;
            seed = first;
            TurretViews x = Check.of("turret t slit sea 1;person p 60;");
            x.climb(0, 0);
            x.drawn(1, first);
            if (draw(12) == 0) {
                draw(60);
            }
            boolean lands = draw(4) == 2;
            Check.is("up or down", x.person(0, 3), lands ? -1 : 0);
            landed += lands ? 1 : 0;
        }
        Check.yes("some landed, some not", landed > 0 && landed < 99);
    }

    /** "(each, if it can be)": what can't be is drawn all the same */
    private static void drawnActsThatCanNotBe() {
        TurretViews x = Check.of("turret t slit sea 60;person p 0;person q 0;");
        Check.is("drawn", x.drawn(60, 9), 60);
        Check.is("nobody climbed", x.now(5), 0);
        Check.is("nobody has a view", x.now(6), 0);
        Check.is("the day", x.now(0), 60);
    }

    private static void drawnToTheEnd() {
        TurretViews x = Check.of(ACTS);
        toDay(x, 395);
        x.image(0);
        Check.is("five are left", x.drawn(60, 4), 5);
        int climbs = x.now(5);
        int views = x.now(6);
        x.restore(0);
        Check.is("just those five", x.drawn(5, 4), 5);
        Check.is("climbs", x.now(5), climbs);
        Check.is("views", x.now(6), views);
        Check.is("none is left", x.drawn(1, 4), 0);
        Check.is("climbs still", x.now(5), climbs);
    }

    /** "A new SUBURB: DAY 0, all are down, nothing walled up, no SENTENCE." */
    private static void newSuburb() {
        TurretViews x = Check.of(ACTS);
        x.climb(0, 0);
        x.wall(1);
        x.storm(2);
        x.days(9);
        Check.sentence(x, "up");
        Check.suburb(x, ACTS);
        DayTests.alike("a new one", x, Check.of(ACTS));
        Check.is("day 0", x.now(0), 0);
        Check.is("all are down", x.now(1), 0);
        Check.is("nothing walled up", x.now(4), 0);
        Check.is("no sentence", x.said(-1), -1);
        Check.is("as high as told", x.turret(1, 2), 50);
    }
}
