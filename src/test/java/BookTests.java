/** Promises 35, 36. */
public final class BookTests {
    public static void main(String[] args) {
        judgedAndLived();
        whyWrong();
        faults();
        tooMany();
        tooLong();
        days();
        judgedFromNow();
        Check.end();
    }

    private static void told(TurretViews x, int why, int lines, int day, int pleased) {
        Check.is("told(0)", x.told(0), why);
        Check.is("told(1)", x.told(1), lines);
        Check.is("told(2)", x.told(2), day);
        Check.is("told(3)", x.told(3), pleased);
        Check.is("told(4)", x.told(4), -1);
        Check.is("told(-1)", x.told(-1), -1);
    }

    private static void judgedAndLived() {
        TurretViews x = Check.of(StateTests.SUBURB);
        for (int what = -1; what < 5; what++) {
            Check.is("told() ahead of any", x.told(what), -1);
        }
        String text = "bo climbs b;ann climbs s ; day 3;\nstorm 4;bo lands;ann lands;bo tells ann tea;wall r;ann climbs r;day 9;";
        Check.is("judged", Check.book(x, text, 0), 8);
        told(x, 3, 8, 3, 1 + 2);
        Check.is("the tape", x.count(2), 0);
        Check.is("all stays", x.now(0) + x.now(5) + x.now(4), 0);
        Check.is("nothing to undo", x.undo(), -1);
        Check.is("lived", Check.book(x, text, 1), 8);
        told(x, 3, 8, 3, 1 + 2);
        Check.is("the day", x.now(0), 3);
        Check.is("walled", x.now(4), 4);
        Check.is("high", x.turret(1, 2), 4);
        Check.is("climbs", x.now(5), 2);
        Check.is("turned", x.turret(3, 1), 0);
        Check.is("another lives", Check.book(x, "day 1;", 2), -1000);
        Check.is("the tape stays", x.count(2), 6);
        Check.is("another lives", x.book(-1), -1000);
        told(x, 3, 8, 3, 1 + 2);
        Check.is("now it is lived", x.book(1), -1);
        told(x, 0, 1, 4, 1 + 2);
        Check.is("a FAULT", Check.book(x, "day 1;day 0;", 1), -2 - 10);
        told(x, 0, 1, 4, 1 + 2);
        Check.is("an empty one", Check.book(x, " \n", 1), -1);
        told(x, 0, 0, 4, 1 + 2);
        Check.is("the first is wrong", Check.book(x, "unwall s;day 1;", 1), 0);
        told(x, 51, 0, 4, 1 + 2);
        Check.suburb(x, "");
        told(x, 51, 0, 4, 1 + 2);
    }

    private static void why(String text, int wrong, int why) {
        TurretViews x = Check.of(StateTests.SUBURB);
        Check.is("book() of " + text, Check.book(x, text, 0), wrong);
        Check.is("told(0) of " + text, x.told(0), why);
        Check.is("lived " + text, Check.book(x, text, 1), wrong);
        Check.is("told(0) of lived " + text, x.told(0), why);
    }

    private static void whyWrong() {
        why("ann climbs s;ann climbs b;", 1, 1);
        why("ann climbs s;bo climbs s;", 1, 2);
        why("wall s;ann climbs s;", 1, 3);
        why("ann climbs r;", 0, 4);
        why("ann lands;", 0, 11);
        why("ann tells ann duty;", 0, 21);
        why("ann climbs s;ann tells bo duty;", 1, 21);
        why("ann tells bo tea;", 0, 22);
        why("ann tells bo duty;ann tells bo duty;", 1, 23);
        why("storm 45;", 0, 31);
        why("wall s;wall s;", 1, 41);
        why("ann climbs s;wall s;", 1, 42);
        why("unwall s;", 0, 51);
        why("day 60;day 60;day 60;day 60;day 60;day 60;day 40;day 1;", 7, 61);
        why("ann climbs s;ann lands;wall s;unwall s;storm 9;day 1;ann tells bo duty;", -1, 0);
    }

    private static void faults() {
        TurretViews x = Check.of(StateTests.SUBURB);
        Check.bookFault(x, "ann climbs s", 12, 1);
        Check.bookFault(x, "ann climbs", 10, 1);
        Check.bookFault(x, "ann ", 4, 1);
        Check.bookFault(x, "ann climbs cid;", 11, 3);
        Check.bookFault(x, "ann climbs nobody;", 11, 3);
        Check.bookFault(x, "ann climbs tea;", 11, 1);
        Check.bookFault(x, "ann climbs 5;", 11, 1);
        Check.bookFault(x, "ann climbed s;", 4, 1);
        Check.bookFault(x, "ann bo;", 4, 1);
        Check.bookFault(x, "ann lands s;", 10, 1);
        Check.bookFault(x, "ann tells s tea;", 10, 3);
        Check.bookFault(x, "ann tells who tea;", 10, 3);
        Check.bookFault(x, "ann tells war tea;", 10, 1);
        Check.bookFault(x, "ann tells bo who;", 13, 1);
        Check.bookFault(x, "ann tells bo;", 12, 1);
        Check.bookFault(x, "who lands;", 0, 3);
        Check.bookFault(x, "s lands;", 0, 3);
        Check.bookFault(x, "turret lands;", 0, 1);
        Check.bookFault(x, "climbs s;", 0, 1);
        Check.bookFault(x, "5;", 0, 1);
        Check.bookFault(x, ";", 0, 1);
        Check.bookFault(x, "storm 0;", 6, 2);
        Check.bookFault(x, "storm 61;", 6, 2);
        Check.bookFault(x, "storm 0061;", 6, 1);
        Check.bookFault(x, "storm s;", 6, 1);
        Check.bookFault(x, "day 0;", 4, 2);
        Check.bookFault(x, "day 61;", 4, 2);
        Check.bookFault(x, "day;", 3, 1);
        Check.bookFault(x, "wall ann;", 5, 3);
        Check.bookFault(x, "wall who;", 5, 3);
        Check.bookFault(x, "unwall ann;", 7, 3);
        Check.bookFault(x, "unwall day;", 7, 1);
        // a WRONG LINE ahead is not lived if there is a FAULT
        Check.bookFault(x, "ann climbs s;ann climbs s;x", 26, 3);
        Check.is("all stayed", x.now(5), 0);
        Check.is("told() ahead of any", x.told(0), -1);
    }

    private static void tooMany() {
        TurretViews x = Check.of(StateTests.SUBURB);
        String forty = "day 1;".repeat(40);
        Check.is("40 LINES", Check.book(x, forty, 0), -1);
        Check.is("told(1)", x.told(1), 40);
        Check.is("told(2)", x.told(2), 40);
        Check.bookFault(x, forty + "day 1;", 240, 4);
        Check.bookFault(x, forty + "ann lands;", 240, 4);
        Check.bookFault(x, forty + " day 99;", 241, 4);
        Check.bookFault(x, forty + "who lands;", 240, 3);
        Check.bookFault(x, forty + "s lands;", 240, 3);
        Check.bookFault(x, forty + "tea;", 240, 1);
        Check.bookFault(x, forty + ";", 240, 1);
        Check.bookFault(x, forty + "7;", 240, 1);
    }

    private static void tooLong() {
        TurretViews x = Check.of(StateTests.SUBURB);
        Check.is("400 bytes", Check.book(x, "day 1;" + Check.blanks(394), 0), -1);
        Check.bookFault(x, "day 1;" + Check.blanks(395), 400, 1);
        Check.bookFault(x, Check.blanks(394) + "day 1; ", 400, 1);
        Check.bookFault(x, Check.blanks(396) + "day 1;", 400, 1);
        Check.bookFault(x, Check.blanks(395) + "day 99;", 399, 2);
        Check.bookFault(x, Check.blanks(399) + "who lands;", 399, 3);
        Check.bookFault(x, Check.blanks(399) + "ann lands;", 400, 1);
        Check.bookFault(x, Check.blanks(399) + "annannann lands;", 399, 1);
        Check.bookFault(x, "day 1;".repeat(40) + Check.blanks(159) + "day 1;", 399, 4);
        Check.bookFault(x, "day 1;".repeat(40) + Check.blanks(160) + "day 1;", 400, 1);
    }

    /** A book is judged from what is so, whatever was judged or read ahead of it. */
    private static void judgedFromNow() {
        TurretViews x = Check.of(StateTests.SUBURB);
        x.wall(0);
        x.days(7);
        x.climb(1, 1);
        Check.is("judged", Check.book(x, "unwall s;ann climbs s;bo lands;day 2;storm 3;", 0), -1);
        told(x, 0, 5, 9, 2);
        Check.is("judged again", Check.book(x, "unwall s;bo lands;day 1;", 0), -1);
        told(x, 0, 3, 8, 2);
        Check.is("a suburb with a FAULT", Check.suburb(x, "turret q slit sea 5;person z 9;person"), -38);
        Check.is("judged behind it", Check.book(x, "bo lands;bo climbs r;", 0), -1);
        told(x, 0, 2, 7, 2);
        x.odds(0, 5, 5);
        Check.is("judged behind odds", Check.book(x, "day 1;wall s;", 0), 1);
        told(x, 41, 1, 8, 2);
    }

    private static void days() {
        TurretViews x = Check.of(StateTests.SUBURB);
        for (int i = 0; i < 6; i++) {
            x.days(60);
        }
        Check.is("fewer are left", Check.book(x, "day 39;day 2;", 1), 1);
        Check.is("why", x.told(0), 61);
        Check.is("the day", x.now(0), 399);
        Check.is("the last one", Check.book(x, "day 1;", 1), -1);
        Check.is("told(2)", x.told(2), 400);
    }
}
