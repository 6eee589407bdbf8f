/** Promises 39, 40. */
public final class ImageTests {
    public static void main(String[] args) {
        places();
        kept();
        others();
        Check.end();
    }

    private static void places() {
        TurretViews x = Check.of(StateTests.SUBURB);
        Check.no("restore(0)", x.restore(0));
        Check.no("image(2)", x.image(2));
        Check.no("image(-1)", x.image(-1));
        Check.no("restore(2)", x.restore(2));
        Check.no("restore(-1)", x.restore(-1));
        Check.yes("image(1)", x.image(1));
        Check.no("restore(0) still", x.restore(0));
        x.days(3);
        Check.no("restore(2)", x.restore(2));
        Check.is("undo goes on", x.undo(), 0);
        Check.yes("restore(1)", x.restore(1));
    }

    private static void kept() {
        TurretViews x = Check.of(StateTests.SUBURB);
        TurretViews y = Check.of(StateTests.SUBURB);
        Check.sentence(x, "up");
        x.climb(0, 1);
        y.climb(0, 1);
        x.days(4);
        y.days(4);
        x.wall(0);
        y.wall(0);
        x.storm(12);
        y.storm(12);
        x.image(0);
        x.land(0);
        x.drawn(30, 5);
        Check.sentence(x, "mild");
        x.image(1);
        Check.suburb(x, "person q 5;turret z slit sea 5;turret y bow tea 3;");
        Check.is("no sentence", x.said(-1), -1);
        x.climb(0, 0);
        Check.yes("restore(0)", x.restore(0));
        DayTests.alike("restored", x, y);
        Check.is("turrets", x.count(0), 4);
        Check.is("persons", x.count(1), 3);
        Check.is("the sentence", x.said(-1), 1);
        Check.is("ann", x.said(0), 0);
        Check.yes("her card", Check.cardOf(x, 0).equals("ann on b thinks duty war music tea"));
        Check.is("nothing can be undone", x.undo(), -1);
        x.land(0);
        Check.is("now it can", x.undo(), 0);
        x.land(0);
        Check.yes("restore(0) again", x.restore(0));
        DayTests.alike("restored again", x, y);
        Check.is("nothing can be undone", x.undo(), -1);
        Check.yes("restore(1)", x.restore(1));
        Check.is("the day", x.now(0), 34);
    }

    private static void others() {
        TurretViews x = Check.of(StateTests.SUBURB);
        x.image(0);
        Check.sentence(x, "up");
        x.soonest(0);
        Check.made(x, 0, 2);
        x.cover();
        x.party();
        x.tea();
        x.card(0);
        Check.book(x, "day 2;ann lands;", 1);
        Check.suburb(x, "person p 61;");
        Check.tape(x, "abcde");
        Check.yes("restore", x.restore(0));
        Check.is("no sentence was kept", x.said(-1), -1);
        Check.is("the tape stays", x.count(2), 5);
        Check.is("soonest stays", x.soonestAt(0), 3);
        Check.is("made stays", x.madeAt(0), 0);
        Check.is("cover stays", x.covering(), 4);
        Check.is("party stays", x.partyOf(0), 3);
        Check.is("tea stays", x.teaOf(0), 48);
        Check.is("card stays", x.byteAt(0), 'a');
        Check.is("told stays", x.told(0), 11);
        Check.is("fault stays", x.fault(), 2);
        Check.is("the day", x.now(0), 0);
        // an image is what was so when it was made
        x.climb(0, 0);
        x.image(0);
        x.land(0);
        x.image(1);
        x.restore(0);
        Check.is("up", x.now(1), 1);
        x.restore(1);
        Check.is("down", x.now(1), 0);
    }
}
