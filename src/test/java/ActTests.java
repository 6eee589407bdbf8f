/** Promises 10 to 17. */
public final class ActTests {
    public static void main(String[] args) {
        climb();
        land();
        tell();
        storm();
        walls();
        days();
        undo();
        undoOfEach();
        undoOfAChain();
        Check.end();
    }

    private static void climb() {
        TurretViews x = Check.of(StateTests.SUBURB);
        Check.is("climb(3, 0)", x.climb(3, 0), -1);
        Check.is("climb(-1, 0)", x.climb(-1, 0), -1);
        Check.is("climb(0, 4)", x.climb(0, 4), -1);
        Check.is("climb(0, -1)", x.climb(0, -1), -1);
        x.wall(2);
        Check.is("walled and too high", x.climb(0, 2), 3);
        Check.is("too high", x.climb(2, 0), 4);
        x.unwall(2);
        Check.is("too high", x.climb(0, 2), 4);
        Check.is("climb", x.climb(0, 0), 0);
        Check.is("the opposite one is gone", x.person(0, 0), 1 + 2);
        Check.is("up somewhere, walled no matter", x.climb(0, 2), 1);
        Check.is("up there himself", x.climb(0, 0), 1);
        Check.is("somebody is up there", x.climb(2, 0), 2);
        Check.is("what was not done changed nothing", x.now(5), 1);
        Check.is("an octagon", x.climb(1, 3), 0);
        Check.is("the last four", x.person(1, 0), 2 + 1 + 128 + 64);
    }

    private static void land() {
        TurretViews x = Check.of(StateTests.SUBURB);
        Check.is("land(3)", x.land(3), -1);
        Check.is("land(-1)", x.land(-1), -1);
        Check.is("he is not up", x.land(0), 1);
        x.climb(0, 0);
        Check.is("land", x.land(0), 0);
        Check.is("down", x.person(0, 3), -1);
        Check.is("he has what he saw", x.person(0, 0), 3);
        Check.is("nobody is there", x.turret(0, 5), -1);
        Check.is("again", x.land(0), 1);
    }

    private static void tell() {
        TurretViews x = Check.of(StateTests.SUBURB);
        Check.is("tell(3, 0, 0)", x.tell(3, 0, 0), -1);
        Check.is("tell(0, 3, 0)", x.tell(0, 3, 0), -1);
        Check.is("tell(-1, 0, 0)", x.tell(-1, 0, 0), -1);
        Check.is("tell(0, -1, 0)", x.tell(0, -1, 0), -1);
        Check.is("tell(0, 1, 8)", x.tell(0, 1, 8), -1);
        Check.is("tell(0, 1, -1)", x.tell(0, 1, -1), -1);
        Check.is("alike", x.tell(0, 0, 0), 1);
        Check.is("he does not have it", x.tell(0, 1, 1), 2);
        Check.is("neither has it", x.tell(2, 1, 1), 2);
        Check.is("tell", x.tell(0, 1, 0), 0);
        Check.is("the opposite one is gone", x.person(1, 0), 1);
        Check.is("he still has it", x.person(0, 0), 33);
        Check.is("the other one has it", x.tell(0, 1, 0), 3);
        x.climb(0, 0);
        Check.is("the one is up", x.tell(0, 2, 0), 1);
        Check.is("the other one is up", x.tell(1, 0, 7), 1);
    }

    private static void storm() {
        TurretViews x = Check.of(StateTests.SUBURB);
        Check.is("storm(0)", x.storm(0), -1);
        Check.is("storm(61)", x.storm(61), -1);
        Check.is("storm(-5)", x.storm(-5), -1);
        Check.is("storm(60)", x.storm(60), 1);
        Check.is("storm(45)", x.storm(45), 1);
        Check.is("storm(44)", x.storm(44), 0);
        Check.is("storm(10)", x.storm(10), 0);
        int[] high = {5, 10, 10, 10};
        for (int t = 0; t < 4; t++) {
            Check.is("high " + t, x.turret(t, 2), high[t]);
        }
        Check.is("storm(1)", x.storm(1), 0);
        Check.is("storm(1) again", x.storm(1), 1);
    }

    private static void walls() {
        TurretViews x = Check.of(StateTests.SUBURB);
        Check.is("wall(4)", x.wall(4), -1);
        Check.is("wall(-1)", x.wall(-1), -1);
        Check.is("unwall(4)", x.unwall(4), -1);
        Check.is("unwall(-1)", x.unwall(-1), -1);
        Check.is("unwall what is open", x.unwall(0), 1);
        Check.is("wall", x.wall(0), 0);
        Check.is("wall again", x.wall(0), 1);
        Check.is("walled", x.turret(0, 4), 1);
        x.climb(0, 1);
        Check.is("somebody is up there", x.wall(1), 2);
        Check.is("not walled", x.turret(1, 4), 0);
        Check.is("unwall", x.unwall(0), 0);
        Check.is("open", x.turret(0, 4), 0);
        Check.is("climb what was walled", x.climb(1, 0), 0);
    }

    private static void days() {
        TurretViews x = Check.of(StateTests.SUBURB);
        Check.is("days(0)", x.days(0), -1);
        Check.is("days(61)", x.days(61), -1);
        Check.is("days(-1)", x.days(-1), -1);
        vanes();
        for (int i = 1; i <= 6; i++) {
            Check.is("days(60)", x.days(60), 60);
            Check.is("now(0)", x.now(0), 60 * i);
        }
        Check.is("the vane", x.turret(3, 1), (5 + 360) % 8);
        Check.is("days(39)", x.days(39), 39);
        Check.is("days(2) at 399", x.days(2), 1);
        Check.is("all are over", x.now(0), 400);
        Check.is("the vane at 400", x.turret(3, 1), (5 + 400) % 8);
        Check.is("days(1) at 400", x.days(1), 0);
        Check.is("drawn(5) at 400", x.drawn(5, 3), 0);
        Check.is("one can still climb", x.climb(0, 0), 0);
        Check.is("undo the climb", x.undo(), 7);
        Check.is("undo days(2)", x.undo(), 6);
        Check.is("then", x.now(0), 399);
    }

    private static void vanes() {
        TurretViews x = Check.of("turret a slit duty 5 vane;turret b bow sea 5;turret c round tea 5 vane;turret d slit tea 5;"
            + "turret e slit dogs 5 vane;turret f slit sea 5 vane;turret g slit sea 5;");
        x.days(3);
        int[] views = {3, 1, 2, 7, 6, 4, 1};
        for (int t = 0; t < 7; t++) {
            Check.is("the view of " + t, x.turret(t, 1), views[t]);
        }
    }

    private static void undo() {
        TurretViews x = Check.of(StateTests.SUBURB);
        Check.is("none", x.undo(), -1);
        x.climb(0, 2);
        x.land(0);
        x.tell(0, 0, 0);
        x.storm(60);
        x.unwall(0);
        x.days(0);
        x.climb(9, 9);
        Check.is("none was done", x.undo(), -1);
        for (int i = 0; i < 5; i++) {
            x.climb(0, 0);
            x.land(0);
        }
        Check.is("climbs", x.now(5), 5);
        x.climb(0, 2);
        for (int i = 7; i >= 0; i--) {
            Check.is("undo", x.undo(), i);
        }
        Check.is("8 are kept", x.undo(), -1);
        Check.is("climbs then", x.now(5), 1);
        Check.is("down then", x.person(0, 3), -1);
        x.days(1);
        x.days(2);
        Check.is("undo of days(2)", x.undo(), 1);
        Check.is("the day", x.now(0), 1);
        x.climb(0, 1);
        Check.is("undo of the climb", x.undo(), 1);
        Check.is("undo of days(1)", x.undo(), 0);
        Check.is("the first day", x.now(0), 0);
    }

    private static void chainAct(TurretViews x, int i) {
        switch (i) {
            case 0: x.climb(0, 0); break;
            case 1: x.land(0); break;
            case 2: x.tell(0, 2, 1); break;
            case 3: x.storm(15); break;
            case 4: x.wall(1); break;
            case 5: x.unwall(1); break;
            case 6: x.days(2); break;
            case 7: x.drawn(9, 4); break;
            default: Check.book(x, "storm 2;day 3;", 1); break;
        }
    }

    /** Each act is undone to just what was so ahead of it, whatever the one ahead of it was. */
    private static void undoOfAChain() {
        for (int first = 0; first < 2; first++) {
            TurretViews x = Check.of(StateTests.SUBURB);
            for (int i = 0; i < 8 + first; i++) {
                chainAct(x, i);
            }
            for (int i = 7; i >= 0; i--) {
                Check.is("undo", x.undo(), i);
                TurretViews y = Check.of(StateTests.SUBURB);
                for (int j = 0; j < i + first; j++) {
                    chainAct(y, j);
                }
                DayTests.alike("undone to " + (i + first), x, y);
            }
            Check.is("undo", x.undo(), -1);
        }
    }

    private static void undoOfEach() {
        TurretViews x = Check.of(StateTests.SUBURB);
        Check.sentence(x, "up");
        x.climb(0, 0);
        Check.sentence(x, "mild");
        Check.is("a sentence is no act", x.undo(), 0);
        Check.is("mild ones", x.said(0), 2);
        Check.is("he has what he had", x.person(0, 0), 33);
        x.tell(0, 2, 0);
        Check.is("undo of tell", x.undo(), 0);
        Check.is("cid has nothing", x.person(2, 0), 0);
        x.storm(7);
        Check.is("undo of storm", x.undo(), 0);
        Check.is("high again", x.turret(1, 2), 20);
        x.wall(1);
        x.unwall(1);
        Check.is("undo of unwall", x.undo(), 1);
        Check.is("walled", x.now(4), 2);
        Check.is("undo of wall", x.undo(), 0);
        Check.is("open", x.now(4), 0);
        x.drawn(20, 77);
        Check.is("undo of drawn", x.undo(), 0);
        Check.is("the day", x.now(0), 0);
        Check.is("no climbs", x.now(5), 0);
        Check.is("the vane", x.turret(3, 1), 5);
        Check.is("book", Check.book(x, "ann climbs s;ann lands;bo climbs o;bo climbs o;", 1), 3);
        Check.is("climbs", x.now(5), 2);
        Check.is("undo of the whole book", x.undo(), 0);
        Check.is("climbs undone", x.now(5), 0);
        Check.is("a book judged", Check.book(x, "ann climbs s;", 0), -1);
        Check.is("no line lived", Check.book(x, "ann lands;ann climbs s;", 1), 0);
        Check.is("an empty book", Check.book(x, "", 1), -1);
        Check.is("a book with a FAULT", Check.book(x, "ann climbs s;x", 1), -15);
        Check.is("nothing to undo", x.undo(), -1);
    }
}
