/** Promises 26 to 32. */
public final class CompanyTests {
    public static void main(String[] args) {
        party();
        partyOfThoseUp();
        tea();
        teaOfThoseUp();
        latestStays();
        partyAnew();
        when();
        card();
        Check.end();
    }

    private static void party() {
        TurretViews x = new TurretViews();
        Check.is("ahead of any", x.partyOf(0), -1);
        Check.is("nobody", x.party(), 0);
        x = Check.of(StateTests.SUBURB);
        Check.is("two", x.party(), 2);
        Check.is("ann", x.partyOf(0), 3);
        Check.is("bo", x.partyOf(1), 1);
        Check.is("cid", x.partyOf(2), -1);
        Check.is("partyOf(3)", x.partyOf(3), -1);
        Check.is("partyOf(-1)", x.partyOf(-1), -1);
        Check.is("partyOf(6)", x.partyOf(6), -1);
        // one who would lose by a climb has none; one who wants nothing has the least
        x = Check.of("turret a slit sea 5;turret b slit war 5;person p 9;person q 9;thinks p war;wants p war;");
        Check.is("both", x.party(), 2);
        Check.is("p may climb b", x.partyOf(0), 1);
        Check.is("q has a", x.partyOf(1), 0);
        x.wall(1);
        Check.is("both still", x.party(), 2);
        Check.is("p has none", x.partyOf(0), -1);
        Check.is("q has a still", x.partyOf(1), 0);
        // nobody can be pleased: they climb the least ones all the same
        x = Check.of("turret a slit sea 5;turret b slit sea 5;person p 9;person q 9;person r 9;wants p tea;wants q tea;"
            + "wants r tea;");
        Check.is("none is pleased", x.party(), 0);
        Check.is("p", x.partyOf(0), 0);
        Check.is("q", x.partyOf(1), 1);
        Check.is("r", x.partyOf(2), -1);
        // the least for the first one would cost the second one his
        x = Check.of("turret a slit sea 5;turret b slit sea 50;person p 60;person q 9;wants p sea;wants q sea;");
        Check.is("both are pleased", x.party(), 2);
        Check.is("p climbs the high one", x.partyOf(0), 1);
        Check.is("q climbs the low one", x.partyOf(1), 0);
        Check.is("nothing changed", x.now(1) + x.now(5) + x.now(6), 0);
    }

    private static void partyOfThoseUp() {
        TurretViews x = Check.of("turret a slit sea 5;turret b slit tea 5;person p 9;person q 9;wants p tea;wants q tea;");
        x.climb(0, 0);
        Check.is("one", x.party(), 1);
        Check.is("p up himself climbs his own", x.partyOf(0), 0);
        Check.is("q climbs b", x.partyOf(1), 1);
        x.climb(1, 1);
        // p can't climb where q is, nor q where p is
        Check.is("q has it", x.party(), 1);
        Check.is("p", x.partyOf(0), 0);
        Check.is("q", x.partyOf(1), 1);
    }

    private static void tea() {
        TurretViews x = new TurretViews();
        Check.is("ahead of any", x.teaOf(0), -1);
        Check.is("nobody", x.tea(), 1);
        Check.is("teaOf(0)", x.teaOf(0), -1);
        x = Check.of("person a 5;person b 5;person c 5;thinks a sea;thinks b sea;thinks c war;");
        Check.is("two rounds", x.tea(), 2);
        for (int p = 0; p < 3; p++) {
            Check.is("sea " + p, x.teaOf(p), 2);
        }
        Check.is("teaOf(3)", x.teaOf(3), -1);
        Check.is("teaOf(-1)", x.teaOf(-1), -1);
        Check.is("nothing changed", x.person(2, 0), 32);
        // two who have opposite ones take one another's: each in turn, so they agree
        x = Check.of("person a 5;person b 5;thinks a sea;thinks b war;");
        Check.is("two rounds", x.tea(), 2);
        Check.is("a has b's", x.teaOf(0), 32);
        Check.is("b keeps it", x.teaOf(1), 32);
        // one alone
        x = Check.of("person a 5;thinks a sea;");
        Check.is("one round", x.tea(), 1);
        Check.is("a", x.teaOf(0), 2);
        // as many for as against: nothing changes
        x = Check.of("person a 5;person b 5;person c 5;thinks a sea;thinks b war;");
        Check.is("rounds", x.tea(), 2);
        Check.is("a", x.teaOf(0), 32);
        Check.is("b", x.teaOf(1), 32);
        Check.is("c", x.teaOf(2), 32);
    }

    private static void teaOfThoseUp() {
        TurretViews x = Check.of("turret t slit duty 1;person a 5;person b 5;person c 5;person d 5;"
            + "thinks a sea;thinks b sea;thinks c war;thinks d dogs;");
        x.climb(0, 0);
        Check.is("rounds", x.tea(), 2);
        Check.is("a is up and keeps his", x.teaOf(0), 3);
        // b hears c's war and d's dogs; c then hears b's war; d hears war twice
        Check.is("b", x.teaOf(1), 32 + 8);
        Check.is("c", x.teaOf(2), 32 + 8);
        Check.is("d", x.teaOf(3), 32 + 8);
    }

    private static void latestStays() {
        TurretViews x = Check.of("turret a slit sea 5;person p 9;person q 9;thinks p sea;thinks q sea;wants p sea;");
        x.party();
        x.tea();
        x.cover();
        x.card(1);
        Check.is("a smaller one", Check.suburb(x, "person p 9;"), 1);
        Check.is("party by the latest", x.partyOf(0), 0);
        Check.is("tea by the latest", x.teaOf(1), 2);
        Check.is("card by the latest", x.byteAt(0), 'q');
        x.tea();
        Check.is("tea anew", x.teaOf(1), -1);
        x.party();
        Check.is("party anew", x.partyOf(0), -1);
    }

    /** What a party of many was must not reach into a smaller one. */
    private static void partyAnew() {
        String many = "turret a slit sea 5;turret b slit sea 5;turret c slit sea 5;turret d slit sea 5;turret e slit sea 5;"
            + "turret f slit sea 5;person p 9;person q 9;person r 9;person s 9;person t 9;person u 9;wants p sea;wants u sea;";
        TurretViews x = Check.of(many);
        Check.is("all", x.party(), 6);
        Check.is("the last one", x.partyOf(5), 5);
        Check.suburb(x, "turret a slit tea 5;person p 9;person q 9;wants p sea;wants q sea;");
        Check.is("none", x.party(), 0);
        Check.is("p", x.partyOf(0), 0);
        for (int p = 1; p < 6; p++) {
            Check.is("partyOf(" + p + ")", x.partyOf(p), -1);
        }
        Check.suburb(x, "");
        Check.is("nobody", x.party(), 0);
        Check.is("no p", x.partyOf(0), -1);
    }

    private static void when() {
        TurretViews x = Check.of(StateTests.SUBURB + "turret v bow thrift 5 vane;");
        for (int view = 0; view < 8; view++) {
            Check.is("when(3, " + view + ")", x.when(3, view), (view + 3) % 8);
            Check.is("when(4, " + view + ")", x.when(4, view), (view + 6) % 8);
            Check.is("when(1, " + view + ")", x.when(1, view), view == 7 ? 0 : -1);
        }
        for (int t = 0; t < 5; t++) {
            Check.is("when(.., 8)", x.when(t, 8), -1);
            Check.is("when(.., 9)", x.when(t, 9), -1);
            Check.is("when(.., 15)", x.when(t, 15), -1);
            Check.is("when(.., -1)", x.when(t, -1), -1);
            Check.is("when(.., -3)", x.when(t, -3), -1);
        }
        Check.is("when(5, 0)", x.when(5, 0), -1);
        Check.is("when(-1, 0)", x.when(-1, 0), -1);
        for (int i = 0; i < 7; i++) {
            x.days(60);
        }
        Check.is("day 400 no matter", x.when(3, 4), 7);
        x.wall(3);
        Check.is("walled no matter", x.when(3, 6), 1);
    }

    private static void card() {
        TurretViews x = Check.of(StateTests.SUBURB + "turret longest octagon dogs 60;person pointed 60;");
        Check.is("ahead of any", x.byteAt(0), -1);
        Check.is("card(4)", x.card(4), -1);
        Check.is("card(-1)", x.card(-1), -1);
        Check.yes("ann's", Check.cardOf(x, 0).equals("ann thinks duty war"));
        Check.yes("cid's", Check.cardOf(x, 2).equals("cid thinks nothing"));
        x.climb(3, 4);
        // dogs back to love: the last four are tea, music, war, love
        Check.yes("his who is up", Check.cardOf(x, 3).equals("pointed on longest thinks love war music tea"));
        x.climb(1, 2);
        Check.yes("bo's", Check.cardOf(x, 1).equals("bo on r thinks duty sea thrift tea"));
        Check.is("card(4) again", x.card(4), -1);
        Check.is("the latest card stays", x.byteAt(1), 'o');
        Check.is("byteAt(-1)", x.byteAt(-1), -1);
        Check.is("byteAt(1000)", x.byteAt(1000), -1);
    }
}
