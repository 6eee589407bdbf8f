/** Promises 18 to 25. */
public final class ClimbTests {
    public static void main(String[] args) {
        behind();
        soonest();
        soonestOfLikeOnes();
        made();
        ask();
        cover();
        Check.end();
    }

    private static void behind() {
        TurretViews x = Check.of(StateTests.SUBURB);
        Check.is("a slit", x.behind(33, 0), 3);
        Check.is("a bow", x.behind(8 + 4 + 16, 1), 128 + 64 + 1);
        Check.is("a round one", x.behind(255, 2), 128 + 1 + 2 + 4);
        Check.is("an octagon", x.behind(0, 3), 2 + 1 + 128 + 64);
        Check.is("what is opposite stays, if it is not seen", x.behind(255, 0), 255 - 32);
        Check.is("behind(256, 0)", x.behind(256, 0), -1);
        Check.is("behind(-1, 0)", x.behind(-1, 0), -1);
        Check.is("behind(0, 4)", x.behind(0, 4), -1);
        Check.is("behind(0, -1)", x.behind(0, -1), -1);
        x.wall(0);
        Check.is("a walled one", x.behind(0, 0), 2);
        x.days(1);
        Check.is("a turned one", x.behind(0, 3), 4 + 2 + 1 + 128);
    }

    private static void soonest() {
        TurretViews x = Check.of(StateTests.SUBURB);
        Check.is("ahead of any", x.soonestAt(0), -1);
        Check.is("soonest(3)", x.soonest(3), -1);
        Check.is("soonest(-1)", x.soonest(-1), -1);
        Check.is("ann", x.soonest(0), 1);
        Check.is("by the octagon", x.soonestAt(0), 3);
        Check.is("none such", x.soonestAt(1), -1);
        Check.is("none such", x.soonestAt(-1), -1);
        x.wall(3);
        Check.is("ann by two", x.soonest(0), 2);
        Check.is("first", x.soonestAt(0), 0);
        Check.is("then", x.soonestAt(1), 1);
        Check.is("cid never", x.soonest(2), -1);
        Check.is("the latest stays", x.soonestAt(1), 1);
        x.climb(1, 0);
        Check.is("bo has the slit", x.soonest(0), -1);
        x.land(1);
        x.climb(0, 0);
        Check.is("ann up there herself", x.soonest(0), 1);
        Check.is("lands and climbs", x.soonestAt(0), 1);
        x.land(0);
        x.climb(0, 1);
        Check.is("ann has all", x.soonest(0), 0);
        Check.is("no climb", x.soonestAt(0), -1);
    }

    private static void soonestOfLikeOnes() {
        TurretViews x = Check.of("turret a slit sea 5;turret b slit tea 5;turret c slit sea 5;turret d bow duty 5;"
            + "person p 9;wants p sea;wants p tea;");
        Check.is("by the bow", x.soonest(0), 1);
        Check.is("it is", x.soonestAt(0), 3);
        x.wall(3);
        Check.is("by two", x.soonest(0), 2);
        Check.is("the least first", x.soonestAt(0), 0);
        Check.is("then the other one", x.soonestAt(1), 1);
        x.wall(0);
        Check.is("by two others", x.soonest(0), 2);
        Check.is("first b", x.soonestAt(0), 1);
        Check.is("then c", x.soonestAt(1), 2);
        TurretViews y = Check.of("turret a round duty 5;turret b round thrift 5;turret c slit sea 5;turret d slit duty 5;"
            + "person p 9;wants p duty;wants p sea;wants p tea;");
        // b leaves music, tea, duty, sea: all that is wanted
        Check.is("by b", y.soonest(0), 1);
        Check.is("it is b", y.soonestAt(0), 1);
        y.wall(1);
        // a leaves love, war, music, tea: c and d bring the rest
        Check.is("by three", y.soonest(0), 3);
        Check.is("a", y.soonestAt(0), 0);
        Check.is("c", y.soonestAt(1), 2);
        Check.is("d", y.soonestAt(2), 3);
    }

    private static void made() {
        TurretViews x = Check.of("turret a slit sea 60;turret b slit tea 60;turret c bow war 60;");
        Check.is("ahead of any", x.madeAt(0), -1);
        Check.is("made() of an empty tape", x.made(), -1);
        Check.tape(x, "abc");
        Check.is("made() of three bytes", x.made(), -1);
        Check.is("the tape is empty", x.count(2), 0);
        Check.tape(x, "a");
        Check.is("made() of one byte", x.made(), -1);
        Check.is("the tape is empty", x.count(2), 0);
        Check.is("none", Check.made(x, 0, 4), 0);
        Check.is("the tape is empty", x.count(2), 0);
        Check.is("still ahead of any", x.madeAt(0), -1);
        Check.is("sea alone: a, aa, aaa", Check.made(x, 0, 2), 3);
        Check.is("a", x.madeAt(0), 0);
        Check.is("one climb", x.madeAt(1), -1);
        // ab, ba, and the threes of a and b that have both
        Check.is("sea and tea", Check.made(x, 0, 2 + 128), 2 + 6);
        Check.is("ab", x.madeAt(0), 0);
        Check.is("ab", x.madeAt(1), 1);
        Check.is("two climbs", x.madeAt(2), -1);
        Check.is("none such", x.madeAt(-1), -1);
        // c has love, war, music; then a puts sea in war's place: ca, and cca, caa
        Check.is("love, music, sea", Check.made(x, 0, 16 + 64 + 2), 4);
        Check.is("ca", x.madeAt(0), 2);
        Check.is("ca", x.madeAt(1), 0);
        Check.is("none now", Check.made(x, 0, 8), 0);
        Check.is("the latest above 0 stays", x.madeAt(0), 2);
        Check.is("not as told now", x.made(), -1);
        Check.is("the latest above 0 stays", x.madeAt(0), 2);
        x.wall(0);
        Check.is("a walled one, too", Check.made(x, 0, 2), 3);
        Check.is("all stay", Check.made(x, 255, 255), 0);
        Check.is("no turrets", Check.made(new TurretViews(), 1, 1), 0);
    }

    private static void ask() {
        TurretViews x = Check.of("person a 1;person b 1;person c 1;person d 1;");
        Check.is("of like ones the first", x.ask(), 0);
        x = Check.of("person a 1;person b 1;person c 1;person d 1;thinks a duty;thinks b duty;thinks c duty;"
            + "thinks a tea;thinks b tea;thinks a sea;thinks b sea;thinks c sea;thinks d sea;");
        Check.is("tea halves them", x.ask(), 7);
        x = Check.of("person a 1;thinks a tea;");
        Check.is("one alone", x.ask(), 0);
        x = Check.of("person a 1;person b 1;person c 1;thinks a dogs;thinks b dogs;thinks c war;thinks a war;");
        Check.is("two of three", x.ask(), 3);
        Check.is("nobody", new TurretViews().ask(), -1);
        Check.is("turrets alone", Check.of("turret a slit sea 5;").ask(), -1);
    }

    private static void cover() {
        TurretViews x = Check.of("turret a bow duty 5;turret b bow dogs 5;turret c bow war 5;turret d slit dogs 5;"
            + "turret e bow music 5;");
        Check.is("ahead of any", x.covering(), -1);
        // a: tea duty sea; b: thrift dogs love; c: love war music; e: war music tea
        Check.is("three", x.cover(), 3);
        Check.is("the least as bits", x.covering(), 1 + 2 + 4);
        x.wall(2);
        Check.is("three without c", x.cover(), 3);
        Check.is("e in its place", x.covering(), 1 + 2 + 16);
        x.wall(0);
        Check.is("not by all", x.cover(), -1);
        Check.is("the latest stays", x.covering(), 1 + 2 + 16);
        x = Check.of(StateTests.SUBURB);
        Check.is("one", x.cover(), 1);
        Check.is("the least of two", x.covering(), 4);
        x.wall(2);
        Check.is("one", x.cover(), 1);
        Check.is("the other one", x.covering(), 8);
        x = Check.of("turret a slit duty 5;turret b bow thrift 5;turret c slit love 5;turret d slit war 5;turret e slit music 5;"
            + "turret f slit tea 5;turret g slit sea 5;");
        Check.is("six", x.cover(), 6);
        Check.is("without g", x.covering(), 63);
        Check.is("no turrets", new TurretViews().cover(), -1);
    }
}
