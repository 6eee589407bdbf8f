/** Promises 37, 38. */
public final class SentenceTests {
    public static void main(String[] args) {
        ones();
        each();
        joined();
        stays();
        faults();
        tooMany();
        tooLong();
        Check.end();
    }

    /** Says a sound sentence and compares of whom it may be said, as bits. */
    private static void said(TurretViews x, String text, int due) {
        Check.yes(text + " is sound", Check.sentence(x, text) > 0);
        int many = 0;
        for (int p = 0; p < x.count(1); p++) {
            if ((due >> p & 1) == 1) {
                Check.is("said(" + many + ") of " + text, x.said(many), p);
                many++;
            }
        }
        Check.is("said(-1) of " + text, x.said(-1), many);
        Check.is("said() behind all of " + text, x.said(many), -1);
        Check.is("said(-2) of " + text, x.said(-2), -1);
    }

    private static void ones() {
        TurretViews x = Check.of(StateTests.SUBURB);
        Check.is("no sentence", x.said(-1), -1);
        Check.is("no sentence", x.said(0), -1);
        Check.is("one", Check.sentence(x, "up"), 1);
        Check.is("the tape", x.count(2), 0);
        Check.is("fault()", x.fault(), 0);
        Check.is("a not and its one", Check.sentence(x, "not up"), 2);
        Check.is("a bracket and its one", Check.sentence(x, "(up)"), 2);
        Check.is("a bracket with two", Check.sentence(x, "not(up or mild)and views=0"), 5);
        Check.is("said of nobody", x.said(-1), 0);
    }

    private static void each() {
        TurretViews x = Check.of(StateTests.SUBURB);
        x.climb(0, 1);
        x.land(0);
        x.climb(0, 0);
        x.climb(1, 2);
        // ann is up s, has duty sea music tea; bo is up r, has duty sea thrift tea; cid has none
        said(x, "up", 3);
        said(x, "mild", 4);
        said(x, "pleased", 3);
        said(x, "has music", 1);
        said(x, "has thrift", 2);
        said(x, "has sea", 3);
        said(x, "has war", 0);
        said(x, "on s", 1);
        said(x, "on r", 2);
        said(x, "on o", 0);
        said(x, "views > 3", 3);
        said(x, "views = 4", 3);
        said(x, "views < 4", 4);
        said(x, "nerve > 29", 3);
        said(x, "nerve > 30", 2);
        said(x, "nerve = 030", 1);
        said(x, "nerve < 999", 7);
        said(x, "nerve < 0", 0);
        said(x, "climbed = 2", 1);
        said(x, "climbed = 1", 2);
        said(x, "climbed < 1", 4);
        said(x, "number > 0", 6);
        said(x, "number = 2", 4);
        said(x, "number < 2", 3);
        x.land(0);
        Check.sentence(x, "up");
        Check.is("as it is now", x.said(0), 1);
        x.climb(0, 0);
        Check.is("as it is then", x.said(0), 0);
    }

    private static void joined() {
        TurretViews x = Check.of("person a 1;person b 1;person c 1;person d 1;person e 1;person f 1;");
        said(x, "number=0 or number=1 and number=2", 1);
        said(x, "number=1 and number=2 or number=0", 1);
        said(x, "(number=0 or number=1) and number>0", 2);
        said(x, "not number=0 or number=0", 63);
        said(x, "not number=0 and number<3", 6);
        said(x, "not (number=0 or number=1)", 60);
        said(x, "not not number=3", 8);
        said(x, "number<4 and number>1 and not number=2", 8);
        said(x, "number=1 or number=3 or number=5", 42);
        said(x, "not(not number=1 and(number<3 or number=5)or number=4)", 2 + 8);
        said(x, "number = 5 or ( number < 3 and ( number > 1 or number = 0 ) )", 32 + 4 + 1);
        said(x, "not(number=0)and not(number=1)or(number=0)", 61);
    }

    private static void stays() {
        TurretViews x = Check.of(StateTests.SUBURB);
        Check.sentence(x, "mild");
        Check.is("a FAULT", Check.sentence(x, "up or"), -6);
        Check.is("it stays", x.said(0), 2);
        Check.is("an empty tape", x.sentence(), -1);
        Check.is("fault()", x.fault(), 1);
        Check.is("it stays", x.said(-1), 1);
        Check.suburb(x, StateTests.SUBURB);
        Check.is("no sentence in a new suburb", x.said(-1), -1);
    }

    private static void faults() {
        TurretViews x = Check.of(StateTests.SUBURB);
        Check.sentenceFault(x, "", 0, 1);
        Check.sentenceFault(x, "  ", 2, 1);
        Check.sentenceFault(x, "up up", 3, 1);
        Check.sentenceFault(x, "up;", 2, 1);
        Check.sentenceFault(x, "up)", 2, 1);
        Check.sentenceFault(x, "(up", 3, 1);
        Check.sentenceFault(x, "()", 1, 1);
        Check.sentenceFault(x, "(up;", 3, 1);
        Check.sentenceFault(x, "or up", 0, 1);
        Check.sentenceFault(x, "and", 0, 1);
        Check.sentenceFault(x, "up and", 6, 1);
        Check.sentenceFault(x, "up and or up", 7, 1);
        Check.sentenceFault(x, "not", 3, 1);
        Check.sentenceFault(x, "not )", 4, 1);
        Check.sentenceFault(x, "ann", 0, 1);
        Check.sentenceFault(x, "tea", 0, 1);
        Check.sentenceFault(x, "has ann", 4, 1);
        Check.sentenceFault(x, "has slit", 4, 1);
        Check.sentenceFault(x, "has", 3, 1);
        Check.sentenceFault(x, "on ann", 3, 3);
        Check.sentenceFault(x, "on who", 3, 3);
        Check.sentenceFault(x, "on tea", 3, 1);
        Check.sentenceFault(x, "on 5", 3, 1);
        Check.sentenceFault(x, "views 5", 6, 1);
        Check.sentenceFault(x, "views <= 5", 7, 1);
        Check.sentenceFault(x, "views ( 5", 6, 1);
        Check.sentenceFault(x, "views < up", 8, 1);
        Check.sentenceFault(x, "views < 1000", 8, 1);
        Check.sentenceFault(x, "views <", 7, 1);
        Check.sentenceFault(x, "up . up", 3, 1);
        Check.sentenceFault(x, "UP", 0, 1);
    }

    private static void tooMany() {
        TurretViews x = Check.of(StateTests.SUBURB);
        String twenty = "up" + " or up".repeat(19);
        Check.is("20 ONES", Check.sentence(x, twenty), 20);
        Check.sentenceFault(x, twenty + " or up", 120, 4);
        Check.sentenceFault(x, twenty + " or on who", 120, 4);
        Check.sentenceFault(x, twenty + " or (", 120, 4);
        Check.sentenceFault(x, twenty + " or tea", 120, 1);
        Check.sentenceFault(x, twenty + " or", 119, 1);
        Check.is("8 within", Check.sentence(x, "not not not not not not not up"), 8);
        Check.sentenceFault(x, "not not not not not not not not up", 32, 4);
        Check.sentenceFault(x, "not not not not not not not not tea", 32, 1);
        Check.is("8 within by brackets", Check.sentence(x, "(((((((up)))))))"), 8);
        Check.sentenceFault(x, "((((((((up))))))))", 8, 4);
        Check.sentenceFault(x, "(((((((( ", 9, 1);
        Check.sentenceFault(x, "(((((((((", 8, 4);
        Check.is("8 within, more than once", Check.sentence(x, "(((((((up or up and up))))))) or not not up"), 13);
        Check.is("it may be said of nobody", x.said(-1), 0);
        // the greatest number of what is kept at once
        String nested = "mild or(mild and(mild or(mild and(mild or(mild and(mild or(not up)))))))";
        Check.sentenceFault(x, nested, nested.indexOf("up"), 4);
        nested = "mild or(mild and(mild or(mild and(mild or(mild and(mild or(mild)))))))";
        Check.is("nested", Check.sentence(x, nested), 15);
        Check.is("nested of cid", x.said(0), 2);
    }

    private static void tooLong() {
        TurretViews x = Check.of(StateTests.SUBURB);
        Check.is("200 bytes", Check.sentence(x, Check.blanks(198) + "up"), 1);
        Check.sentenceFault(x, Check.blanks(198) + "up ", 200, 1);
        Check.sentenceFault(x, Check.blanks(199) + "up", 200, 1);
        Check.sentenceFault(x, Check.blanks(200) + "up", 200, 1);
        Check.sentenceFault(x, Check.blanks(199) + "tea", 199, 1);
        Check.sentenceFault(x, Check.blanks(198) + "has tea", 200, 1);
        Check.sentenceFault(x, Check.blanks(196) + "on who", 199, 3);
        Check.sentenceFault(x, "up" + Check.blanks(400) + "up", 200, 1);
        Check.sentenceFault(x, ")".repeat(940), 0, 1);
        Check.sentenceFault(x, "(".repeat(940), 8, 4);
    }
}
