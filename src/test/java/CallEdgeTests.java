/** Promises 1 to 41, call by call: each sentence that names an edge by a test of its own. */
public final class CallEdgeTests {
    private static final int LEAST = Integer.MIN_VALUE;
    private static final int GREATEST = Integer.MAX_VALUE;
    /** Two TURRETS, three PERSONS; r has no nerve. */
    private static final String SMALL = "turret t slit sea 5;turret u bow tea 20 vane;person p 9;person q 60;person r 0;"
        + "thinks p war;thinks q duty;wants p sea;wants q tea;wants r dogs;";
    /** Numbers of which no TURRET, PERSON or VIEW of SMALL is one. */
    private static final int[] NO_SUCH = {-1, -2, 8, 9, 60, 1000, LEAST, GREATEST};

    public static void main(String[] args) {
        texts();
        states();
        acts();
        questions();
        company();
        drawsAndBooks();
        sentencesAndImages();
        manyCalls();
        Check.end();
    }

    private static void texts() {
        p01NewObject();
        p02FeedFull();
        p02FeedJustFull();
        p02FeedHighestFirst();
        p03EndTooFar();
        p03EndBelowNought();
        p03EndOfAll();
        p04SuburbEmptiesTheTape();
        p04SuburbStaysByAFault();
        p04SuburbOfNoLines();
        p05FaultAheadOfAny();
        p05FaultOfTheLatest();
        p05FaultLeftByAnotherLives();
        p05FaultLeftByOtherCalls();
    }

    private static void states() {
        p06NoSuchPerson();
        p06NoSuchWhat();
        p06ThrowingChangesNothing();
        p06DownIsNone();
        p07NoSuchTurret();
        p07NoSuchWhat();
        p07NobodyIsNone();
        p08NoneSuch();
        p09AnotherWhat();
        p09OfNobody();
        p09WhoIsMildAndPleased();
        p09ClimbsAndViewsOfAll();
    }

    private static void acts() {
        p10ClimbNoSuchOnes();
        p11LandNoSuchOne();
        p12TellNoSuchOnes();
        p13StormNotAsTold();
        p14WallNoSuchOne();
        p15UnwallNoSuchOne();
        p16DaysNotAsTold();
        p16DaysHowManyDid();
        p17UndoNone();
        p17UndoEightAtMost();
        p17UndoOfWhatWasNotDone();
        p17UndoOfDaysOfNought();
        p17UndoOfABook();
        p17UndoOfEachAct();
        p17UndoInANewSuburb();
        p17UndoBehindAFault();
    }

    private static void questions() {
        p18BehindNoSuchOnes();
        p19SoonestNever();
        p19SoonestNoSuchOne();
        p20SoonestAtAheadOfAny();
        p20SoonestAtNoneSuch();
        p20SoonestAtStaysByNone();
        p21MadeNotAsTold();
        p21MadeEmptiesTheTape();
        p21MadeWithoutTurrets();
        p22MadeAtAheadOfAny();
        p22MadeAtStaysByNought();
        p22MadeAtNoneSuch();
        p23AskNobody();
        p24CoverNotByAll();
        p25CoveringAheadOfAny();
        p25CoveringStaysByNone();
    }

    private static void company() {
        p26PartyOfNobody();
        p27PartyOfAheadOfAny();
        p27PartyOfNoSuchOne();
        p28TeaOfNobody();
        p29TeaOfAheadOfAny();
        p29TeaOfNoSuchOne();
        p30WhenNever();
        p30WhenNow();
        p30WhenNoSuchOnes();
        p30WhenBeyondDayFourHundred();
        p31CardNoSuchOne();
        p32ByteAtNoneSuch();
        p32ByteAtStaysByNone();
    }

    private static void drawsAndBooks() {
        p33DrawnNotAsTold();
        p33DrawnHowManyWentBy();
        p34OddsNoSuchOnes();
        p34OddsOfSeedsThatWrap();
        p34OddsNearTheEnd();
        p35BookAnotherLives();
        p35BookJudgedStays();
        p35BookLivedAsFar();
        p35BookFaultLivesNothing();
        p36ToldAheadOfAny();
        p36ToldAnotherWhat();
        p36ToldStaysByAFault();
        p36ToldWhy();
        p36ToldFewerDaysAreLeft();
    }

    private static void sentencesAndImages() {
        p37SentenceStaysByAFault();
        p37SentenceEmptiesTheTape();
        p38SaidWithoutASentence();
        p38SaidNoneSuch();
        p39ImageNoSuchPlace();
        p39ImageAnew();
        p40RestoreNoSuchPlace();
        p40RestoreNothingKept();
        p40RestoreNothingCanBeUndone();
        p40RestoreLeavesTapeAndTold();
        p40RestoreOfNoSentence();
        p41CountAnotherWhat();
    }

    private static TurretViews small() {
        return Check.of(SMALL);
    }

    private static void same(String what, TurretViews x, TurretViews y) {
        Check.is(what + ": turrets", x.count(0), y.count(0));
        Check.is(what + ": persons", x.count(1), y.count(1));
        DayTests.alike(what, x, y);
    }

    // ---- 1 to 5

    /** "A SUBURB without TURRETS; an empty tape." */
    private static void p01NewObject() {
        TurretViews x = new TurretViews();
        for (int what = 0; what < 3; what++) {
            Check.is("count(" + what + ")", x.count(what), 0);
        }
        for (int what = 0; what < 7; what++) {
            Check.is("now(" + what + ")", x.now(what), 0);
        }
    }

    /** "NONE, and none come, if it would have more than 940" */
    private static void p02FeedFull() {
        TurretViews x = new TurretViews();
        for (int i = 1; i <= 47; i++) {
            Check.is("feed", x.feed(i, 0, 0, 0, 0), 20 * i);
        }
        Check.is("the 48th", x.feed(1, 1, 1, 1, 1), -1);
        Check.is("none come", x.count(2), 940);
    }

    private static void p02FeedJustFull() {
        TurretViews x = new TurretViews();
        for (int i = 1; i <= 47; i++) {
            x.feed(0, 0, 0, 0, 0);
        }
        x.end(921);
        Check.is("941 would be too many", x.feed(0, 0, 0, 0, 0), -1);
        Check.is("none come", x.count(2), 921);
        x.end(920);
        Check.is("940 are not", x.feed(0, 0, 0, 0, 0), 940);
    }

    /** "of each number the highest first" */
    private static void p02FeedHighestFirst() {
        TurretViews x = new TurretViews();
        // "person pq 5;", then blanks of both sorts
        Check.is("feed", x.feed(0x70657273, 0x6f6e2070, 0x7120353b, 0x20202020, 0x2020200a), 20);
        Check.is("suburb", x.suburb(), 1);
        Check.yes("pq", Check.cardOf(x, 0).equals("pq thinks nothing"));
    }

    /** "false, if it has not so many" */
    private static void p03EndTooFar() {
        TurretViews x = new TurretViews();
        Check.no("end(1) of none", x.end(1));
        x.feed(0, 0, 0, 0, 0);
        Check.no("end(21)", x.end(21));
        Check.no("end of the greatest int", x.end(GREATEST));
        Check.is("all stay", x.count(2), 20);
    }

    /** "or n is below 0" */
    private static void p03EndBelowNought() {
        TurretViews x = new TurretViews();
        x.feed(0, 0, 0, 0, 0);
        Check.no("end(-1)", x.end(-1));
        Check.no("end of the least int", x.end(LEAST));
        Check.is("all stay", x.count(2), 20);
    }

    /** "The tape has its first n bytes alone: true" */
    private static void p03EndOfAll() {
        TurretViews x = new TurretViews();
        Check.yes("end(0) of none", x.end(0));
        x.feed(0, 0, 0, 0, 0);
        Check.yes("end(20)", x.end(20));
        Check.is("all", x.count(2), 20);
        Check.yes("end(0)", x.end(0));
        Check.is("none", x.count(2), 0);
    }

    /** "The tape (empty then, here and below)" */
    private static void p04SuburbEmptiesTheTape() {
        TurretViews x = new TurretViews();
        Check.suburb(x, "person p 5;");
        Check.is("behind a sound one", x.count(2), 0);
        Check.suburb(x, "person p 5");
        Check.is("behind a FAULT", x.count(2), 0);
        Check.is("it is an empty text now", x.suburb(), 0);
    }

    /** "-1 less the place of a FAULT: it stays" */
    private static void p04SuburbStaysByAFault() {
        TurretViews x = small();
        TurretViews y = small();
        for (TurretViews z : new TurretViews[] {x, y}) {
            z.climb(1, 1);
            z.days(2);
            Check.sentence(z, "up");
        }
        Check.is("a FAULT at 0", Check.suburb(x, "!"), -1);
        Check.is("a FAULT at 11", Check.suburb(x, "person p 5;person p 5;"), -19);
        same("it stays", x, y);
        Check.is("and its sentence", x.said(0), 1);
        Check.is("and what can be undone", x.undo(), 1);
    }

    private static void p04SuburbOfNoLines() {
        TurretViews x = small();
        Check.is("no LINES", x.suburb(), 0);
        same("as a new object", x, new TurretViews());
    }

    /** "0 without one and ahead of any" */
    private static void p05FaultAheadOfAny() {
        TurretViews x = new TurretViews();
        Check.is("ahead of any", x.fault(), 0);
        Check.suburb(x, "person");
        Check.is("of one", x.fault(), 1);
        Check.suburb(x, "person p 5;");
        Check.is("without one", x.fault(), 0);
    }

    /** "of the latest suburb(), book() or sentence()" */
    private static void p05FaultOfTheLatest() {
        TurretViews x = small();
        Check.suburb(x, "person p 61;");
        Check.is("suburb", x.fault(), 2);
        Check.book(x, "nobody lands;", 0);
        Check.is("book judged", x.fault(), 3);
        Check.sentence(x, "not ".repeat(8) + "up");
        Check.is("sentence", x.fault(), 4);
        Check.book(x, "day", 1);
        Check.is("book lived", x.fault(), 1);
        Check.book(x, "p lands;", 1);
        Check.is("a WRONG book is no FAULT", x.fault(), 0);
    }

    /** "(a book() of -1000 leaves it)" */
    private static void p05FaultLeftByAnotherLives() {
        TurretViews x = small();
        Check.suburb(x, "person p 61;");
        Check.is("another lives", Check.book(x, "day 1;", -1), -1000);
        Check.is("it is left", x.fault(), 2);
    }

    private static void p05FaultLeftByOtherCalls() {
        TurretViews x = small();
        Check.book(x, "nobody lands;", 0);
        x.made();
        x.undo();
        x.image(0);
        x.restore(0);
        x.climb(0, 0);
        Check.is("it is left", x.fault(), 3);
    }

    // ---- 6 to 9

    /** "NoSuchElementException: no such ones" */
    private static void p06NoSuchPerson() {
        TurretViews x = small();
        for (int p : new int[] {-1, 3, 4, 6, 7, LEAST, GREATEST}) {
            for (int what = 0; what < 7; what++) {
                Check.throwsNone("person(" + p + ", " + what + ")", x, p, what);
            }
        }
        Check.throwsNone("person(0, 0) of nobody", new TurretViews(), 0, 0);
    }

    private static void p06NoSuchWhat() {
        TurretViews x = small();
        for (int what : new int[] {-1, 7, 8, LEAST, GREATEST}) {
            Check.throwsNone("person(0, " + what + ")", x, 0, what);
        }
    }

    /** "A call that throws changes nothing." */
    private static void p06ThrowingChangesNothing() {
        TurretViews x = small();
        TurretViews y = small();
        for (TurretViews z : new TurretViews[] {x, y}) {
            z.climb(1, 1);
            z.card(1);
            Check.sentence(z, "up");
            Check.tape(z, "abc");
        }
        Check.throwsNone("person(9, 0)", x, 9, 0);
        Check.throwsNone("person(0, 9)", x, 0, 9);
        Check.is("the tape", x.count(2), 3);
        Check.is("the sentence", x.said(0), 1);
        Check.is("the card", x.byteAt(0), 'q');
        Check.is("fault", x.fault(), 0);
        same("all is as it was", x, y);
        Check.is("undo", x.undo(), 0);
    }

    /** "3 up which TURRET he is (NONE: down)" */
    private static void p06DownIsNone() {
        TurretViews x = small();
        Check.is("down", x.person(1, 3), -1);
        x.climb(1, 0);
        Check.is("up the first one", x.person(1, 3), 0);
    }

    /** "NONE, too: no such ones" */
    private static void p07NoSuchTurret() {
        TurretViews x = small();
        for (int t : new int[] {-1, 2, 6, 7, LEAST, GREATEST}) {
            for (int what = 0; what < 7; what++) {
                Check.is("turret(" + t + ", " + what + ")", x.turret(t, what), -1);
            }
        }
    }

    private static void p07NoSuchWhat() {
        TurretViews x = small();
        for (int what : new int[] {-1, 7, 8, LEAST, GREATEST}) {
            Check.is("turret(0, " + what + ")", x.turret(0, what), -1);
        }
    }

    /** "5 who is up there (NONE)" */
    private static void p07NobodyIsNone() {
        TurretViews x = small();
        Check.is("nobody", x.turret(0, 5), -1);
        x.climb(0, 0);
        Check.is("the first one", x.turret(0, 5), 0);
        x.land(0);
        Check.is("nobody again", x.turret(0, 5), -1);
    }

    /** "NONE: none such, no such ones" */
    private static void p08NoneSuch() {
        TurretViews x = small();
        Check.is("a slit's second", x.looks(0, 1), -1);
        Check.is("a bow's third", x.looks(1, 2), 0);
        Check.is("a bow's fourth", x.looks(1, 3), -1);
        for (int no : NO_SUCH) {
            Check.is("looks(0, " + no + ")", x.looks(0, no), -1);
            Check.is("looks(" + no + ", 0)", x.looks(no, 0), -1);
        }
        Check.is("looks(2, 0)", x.looks(2, 0), -1);
    }

    /** "NONE for another what" */
    private static void p09AnotherWhat() {
        TurretViews x = small();
        for (int what : new int[] {-1, 7, 8, LEAST, GREATEST}) {
            Check.is("now(" + what + ")", x.now(what), -1);
        }
    }

    private static void p09OfNobody() {
        TurretViews x = Check.of("turret t slit sea 5;");
        for (int what = 0; what < 7; what++) {
            Check.is("now(" + what + ")", x.now(what), 0);
        }
    }

    /** "2 who is mild, 3 who is pleased": the first one, the last one, all and none of them */
    private static void p09WhoIsMildAndPleased() {
        TurretViews x = Check.of("person a 5;person b 5;person c 5;person d 5;person e 5;person f 5;");
        Check.is("all are mild", x.now(2), 63);
        Check.is("all are pleased", x.now(3), 63);
        x = Check.of("person a 5;person b 5;person c 5;thinks b sea;wants b sea;wants a sea;wants c sea;");
        Check.is("the first and the last are mild", x.now(2), 5);
        Check.is("b is pleased", x.now(3), 2);
        x = Check.of("person a 5;person b 5;thinks a sea;thinks b sea;wants a war;wants b tea;");
        Check.is("none is mild", x.now(2), 0);
        Check.is("none is pleased", x.now(3), 0);
    }

    /** "5 climbs so far .. 6 how many have VIEWS in all (each PERSON each VIEW)" */
    private static void p09ClimbsAndViewsOfAll() {
        TurretViews x = Check.of("turret t slit sea 5;turret u bow tea 5;person a 5;person b 5;person c 5;");
        x.climb(0, 0);
        x.climb(2, 1);
        x.land(0);
        x.climb(0, 0);
        Check.is("climbs, alike ones too", x.now(5), 3);
        Check.is("views", x.now(6), 1 + 3);
        x.undo();
        Check.is("undone", x.now(5), 2);
    }

    // ---- 10 to 17

    private static void p10ClimbNoSuchOnes() {
        TurretViews x = small();
        for (int no : NO_SUCH) {
            Check.is("climb(" + no + ", 0)", x.climb(no, 0), -1);
            Check.is("climb(0, " + no + ")", x.climb(0, no), -1);
        }
        Check.is("climb(3, 0)", x.climb(3, 0), -1);
        Check.is("climb(0, 2)", x.climb(0, 2), -1);
        same("refused", x, small());
        Check.is("undo", x.undo(), -1);
    }

    private static void p11LandNoSuchOne() {
        TurretViews x = small();
        x.climb(0, 0);
        for (int no : NO_SUCH) {
            Check.is("land(" + no + ")", x.land(no), -1);
        }
        Check.is("land(3)", x.land(3), -1);
        Check.is("he is still up", x.now(1), 1);
    }

    private static void p12TellNoSuchOnes() {
        TurretViews x = small();
        for (int no : NO_SUCH) {
            Check.is("tell(" + no + ", 0, 0)", x.tell(no, 0, 0), -1);
            Check.is("tell(1, " + no + ", 0)", x.tell(1, no, 0), -1);
            Check.is("tell(1, 0, " + no + ")", x.tell(1, 0, no), -1);
            Check.is("tell(" + no + ", " + no + ", 0)", x.tell(no, no, 0), -1);
            Check.is("alike, but no such view", x.tell(0, 0, no), -1);
        }
        Check.is("tell(3, 0, 0)", x.tell(3, 0, 0), -1);
        Check.is("tell(1, 3, 0)", x.tell(1, 3, 0), -1);
        same("refused", x, small());
    }

    /** "A STORM of n (1 to 60) .. NONE: not as told" */
    private static void p13StormNotAsTold() {
        TurretViews x = small();
        for (int no : new int[] {0, -1, 61, LEAST, GREATEST}) {
            Check.is("storm(" + no + ")", x.storm(no), -1);
        }
        Check.is("storm(60)", x.storm(60), 1);
        Check.is("storm(1)", x.storm(1), 0);
    }

    private static void p14WallNoSuchOne() {
        TurretViews x = small();
        for (int no : NO_SUCH) {
            Check.is("wall(" + no + ")", x.wall(no), -1);
        }
        Check.is("wall(2)", x.wall(2), -1);
        Check.is("nothing is walled", x.now(4), 0);
    }

    private static void p15UnwallNoSuchOne() {
        TurretViews x = small();
        x.wall(0);
        x.wall(1);
        for (int no : NO_SUCH) {
            Check.is("unwall(" + no + ")", x.unwall(no), -1);
        }
        Check.is("unwall(2)", x.unwall(2), -1);
        Check.is("both are walled", x.now(4), 3);
    }

    /** "n (1 to 60) .. NONE: not as told" */
    private static void p16DaysNotAsTold() {
        TurretViews x = small();
        for (int no : new int[] {0, -1, 61, LEAST, GREATEST}) {
            Check.is("days(" + no + ")", x.days(no), -1);
        }
        Check.is("no day went", x.now(0), 0);
        Check.is("days(1)", x.days(1), 1);
        Check.is("days(60)", x.days(60), 60);
    }

    private static TurretViews onDay(String suburb, int day) {
        TurretViews x = Check.of(suburb);
        for (int left = day; left > 0; left -= 60) {
            x.days(left < 60 ? left : 60);
        }
        Check.is("the day", x.now(0), day);
        return x;
    }

    /** "how many did" */
    private static void p16DaysHowManyDid() {
        TurretViews x = onDay(SMALL, 399);
        Check.is("one was left", x.days(60), 1);
        Check.is("none was left", x.days(1), 0);
        TurretViews y = onDay(SMALL, 340);
        Check.is("just as many", y.days(60), 60);
        Check.is("none is left", y.days(60), 0);
    }

    /** "NONE: none is" */
    private static void p17UndoNone() {
        TurretViews x = small();
        Check.is("none", x.undo(), -1);
        x.wall(0);
        Check.is("one, and none more", x.undo(), 0);
        Check.is("none again", x.undo(), -1);
        same("as it was", x, small());
    }

    /** "8 at most are kept" */
    private static void p17UndoEightAtMost() {
        for (int many = 7; many <= 12; many++) {
            TurretViews x = small();
            for (int i = 0; i < many; i++) {
                x.days(1);
            }
            int kept = many < 8 ? many : 8;
            for (int left = kept - 1; left >= 0; left--) {
                Check.is("how many more can be", x.undo(), left);
            }
            Check.is("none", x.undo(), -1);
            Check.is("the day", x.now(0), many - kept);
        }
    }

    /** "that was done" */
    private static void p17UndoOfWhatWasNotDone() {
        TurretViews x = small();
        x.wall(0);
        Check.is("climb", x.climb(0, 0), 3);
        Check.is("land", x.land(0), 1);
        Check.is("tell", x.tell(0, 0, 0), 1);
        Check.is("storm", x.storm(60), 1);
        Check.is("wall", x.wall(0), 1);
        Check.is("unwall", x.unwall(1), 1);
        Check.is("the wall is undone", x.undo(), 0);
        same("as it was", x, small());
    }

    /** "days() above 0, drawn() above 0" */
    private static void p17UndoOfDaysOfNought() {
        TurretViews x = onDay(SMALL, 399);
        Check.is("one", x.days(2), 1);
        Check.is("none", x.days(2), 0);
        Check.is("none drawn", x.drawn(2, 5), 0);
        Check.is("the one is undone, seven are behind it", x.undo(), 7);
        Check.is("the day", x.now(0), 399);
    }

    /** "a BOOK of which some LINE was lived" */
    private static void p17UndoOfABook() {
        TurretViews x = small();
        Check.is("none was lived", Check.book(x, "p lands;day 1;", 1), 0);
        Check.is("an empty one", Check.book(x, "", 1), -1);
        Check.is("judged alone", Check.book(x, "day 1;", 0), -1);
        Check.is("nothing to undo", x.undo(), -1);
        Check.is("one LINE was lived", Check.book(x, "day 1;p lands;", 1), 1);
        Check.is("all LINES were", Check.book(x, "day 1;wall t;storm 9;", 1), -1);
        Check.is("undone at once", x.undo(), 1);
        Check.is("the day", x.now(0), 1);
        Check.is("and the other one", x.undo(), 0);
        same("as it was", x, small());
    }

    private static void act(TurretViews x, int which) {
        switch (which) {
            case 0: Check.is("climb", x.climb(1, 1), 0); break;
            case 1: Check.is("land", x.land(0), 0); break;
            case 2: Check.is("tell", x.tell(1, 2, 0), 0); break;
            case 3: Check.is("storm", x.storm(7), 0); break;
            case 4: Check.is("wall", x.wall(1), 0); break;
            case 5: Check.is("unwall", x.unwall(2), 0); break;
            case 6: Check.is("days", x.days(3), 3); break;
            case 7: Check.is("drawn", x.drawn(30, 2), 30); break;
            default: Check.is("book", Check.book(x, "p lands;storm 8;day 2;q tells r duty;", 1), -1); break;
        }
    }

    private static TurretViews readyForActs() {
        TurretViews x = Check.of(SMALL + "turret v slit war 5;");
        x.climb(0, 0);
        x.wall(2);
        return x;
    }

    /** "The latest of climb(), land(), tell(), storm(), wall(), unwall() .., days() .., drawn() .., a BOOK .. is undone" */
    private static void p17UndoOfEachAct() {
        for (int first = 0; first < 9; first++) {
            TurretViews x = readyForActs();
            act(x, first);
            Check.is("undo of act " + first, x.undo(), 2);
            same("undone act " + first, x, readyForActs());
            // a day ahead of it, so that what is kept is not what was kept for another act
            TurretViews y = readyForActs();
            y.days(1);
            act(y, first);
            y.undo();
            TurretViews z = readyForActs();
            z.days(1);
            same("undone act " + first + " on another day", y, z);
        }
    }

    /** A new SUBURB begins with nothing done. */
    private static void p17UndoInANewSuburb() {
        TurretViews x = small();
        x.days(1);
        Check.suburb(x, SMALL);
        Check.is("nothing was done", x.undo(), -1);
        x.days(2);
        Check.is("one was", x.undo(), 0);
        same("as told", x, small());
    }

    private static void p17UndoBehindAFault() {
        TurretViews x = small();
        x.wall(0);
        Check.suburb(x, "!");
        Check.book(x, "!", 1);
        Check.sentence(x, "!");
        Check.is("it can still be", x.undo(), 0);
    }

    // ---- 18 to 25

    /** "(bits, 0 to 255) .. NONE: no such ones" */
    private static void p18BehindNoSuchOnes() {
        TurretViews x = small();
        for (int no : new int[] {-1, 256, LEAST, GREATEST}) {
            Check.is("behind(" + no + ", 0)", x.behind(no, 0), -1);
        }
        for (int no : NO_SUCH) {
            Check.is("behind(0, " + no + ")", x.behind(0, no), -1);
        }
        Check.is("behind(0, 2)", x.behind(0, 2), -1);
        Check.is("behind(0, 0)", x.behind(0, 0), 2);
        Check.is("behind(255, 0)", x.behind(255, 0), 255 - 32);
    }

    /** "NONE: never" */
    private static void p19SoonestNever() {
        TurretViews x = small();
        Check.is("r has no nerve", x.soonest(2), -1);
        x.wall(0);
        Check.is("p's turret is walled", x.soonest(0), -1);
        Check.is("without turrets", Check.of("person p 5;wants p sea;").soonest(0), -1);
    }

    private static void p19SoonestNoSuchOne() {
        TurretViews x = small();
        for (int no : NO_SUCH) {
            Check.is("soonest(" + no + ")", x.soonest(no), -1);
        }
        Check.is("soonest(3)", x.soonest(3), -1);
    }

    /** "or ahead of any" */
    private static void p20SoonestAtAheadOfAny() {
        TurretViews x = small();
        Check.is("ahead of any", x.soonestAt(0), -1);
        x.soonest(2);
        Check.is("a soonest() of NONE is none", x.soonestAt(0), -1);
    }

    /** "NONE: none such" */
    private static void p20SoonestAtNoneSuch() {
        TurretViews x = small();
        Check.is("one climb", x.soonest(0), 1);
        Check.is("the first", x.soonestAt(0), 0);
        for (int no : new int[] {-1, 1, 7, 255, 256, LEAST, GREATEST}) {
            Check.is("soonestAt(" + no + ")", x.soonestAt(no), -1);
        }
        x.climb(0, 0);
        Check.is("he has all", x.soonest(0), 0);
        Check.is("no climb", x.soonestAt(0), -1);
    }

    /** "by the latest soonest() that was not NONE" */
    private static void p20SoonestAtStaysByNone() {
        TurretViews x = small();
        x.soonest(1);
        Check.is("q climbs u", x.soonestAt(0), 1);
        x.soonest(2);
        x.soonest(9);
        Check.is("still", x.soonestAt(0), 1);
        x.wall(1);
        Check.is("as it was then", x.soonestAt(0), 1);
    }

    /** "(2 bytes ..)", "NONE: not as told" */
    private static void p21MadeNotAsTold() {
        TurretViews x = small();
        for (int many : new int[] {0, 1, 3, 20, 940}) {
            Check.tape(x, Check.blanks(many));
            Check.is("made() of " + many, x.made(), -1);
        }
        Check.is("of two", Check.made(x, 0, 2), 3);
    }

    private static void p21MadeEmptiesTheTape() {
        TurretViews x = small();
        Check.made(x, 0, 2);
        Check.is("as told", x.count(2), 0);
        Check.tape(x, "abc");
        x.made();
        Check.is("not as told", x.count(2), 0);
    }

    private static void p21MadeWithoutTurrets() {
        TurretViews x = new TurretViews();
        Check.is("no rows", Check.made(x, 0, 0), 0);
        Check.is("no rows", Check.made(x, 255, 255), 0);
    }

    private static void p22MadeAtAheadOfAny() {
        TurretViews x = small();
        Check.is("ahead of any", x.madeAt(0), -1);
        Check.made(x, 0, 4);
        x.made();
        Check.is("made() of 0 and of NONE are none", x.madeAt(0), -1);
    }

    /** "by the latest made() above 0" */
    private static void p22MadeAtStaysByNought() {
        TurretViews x = small();
        Check.is("u, uu, uuu", Check.made(x, 0, 1 + 64 + 128), 3);
        Check.is("u", x.madeAt(0), 1);
        Check.is("none", Check.made(x, 0, 8), 0);
        Check.is("not as told", x.made(), -1);
        Check.is("still u", x.madeAt(0), 1);
        Check.is("t", Check.made(x, 0, 2), 3);
        Check.is("t now", x.madeAt(0), 0);
    }

    private static void p22MadeAtNoneSuch() {
        TurretViews x = small();
        Check.made(x, 0, 2);
        for (int no : new int[] {-1, 1, 2, 3, LEAST, GREATEST}) {
            Check.is("madeAt(" + no + ")", x.madeAt(no), -1);
        }
    }

    /** "NONE: there are no PERSONS" */
    private static void p23AskNobody() {
        Check.is("nobody", new TurretViews().ask(), -1);
        Check.is("turrets alone", Check.of("turret t slit sea 5;").ask(), -1);
        Check.is("one", Check.of("person p 5;").ask(), 0);
    }

    /** "NONE: not by all" */
    private static void p24CoverNotByAll() {
        Check.is("no turrets", new TurretViews().cover(), -1);
        Check.is("too few", small().cover(), -1);
        String seven = "turret a slit duty 5;turret b slit sea 5;turret c slit thrift 5;turret d slit dogs 5;turret e slit love 5;"
            + "turret f slit war 5;turret g ";
        Check.is("seven of eight", Check.of(seven + "slit music 5;").cover(), -1);
        Check.is("g has war, too", Check.of(seven + "bow music 5;").cover(), 6);
        TurretViews x = Check.of(seven + "bow tea 5;");
        Check.is("g has duty, too", x.cover(), 6);
        Check.is("without a", x.covering(), 126);
    }

    private static void p25CoveringAheadOfAny() {
        TurretViews x = small();
        Check.is("ahead of any", x.covering(), -1);
        x.cover();
        Check.is("a cover() of NONE is none", x.covering(), -1);
    }

    /** "by the latest cover() that was not NONE" */
    private static void p25CoveringStaysByNone() {
        TurretViews x = Check.of("turret t slit sea 5;turret u round sea 5;");
        Check.is("one", x.cover(), 1);
        x.wall(1);
        Check.is("NONE", x.cover(), -1);
        Check.is("still u", x.covering(), 2);
    }

    // ---- 26 to 32

    private static void p26PartyOfNobody() {
        Check.is("nobody", new TurretViews().party(), 0);
        Check.is("turrets alone", Check.of("turret t slit sea 5;").party(), 0);
    }

    /** "or ahead of any" */
    private static void p27PartyOfAheadOfAny() {
        TurretViews x = small();
        for (int p = 0; p < 3; p++) {
            Check.is("ahead of any", x.partyOf(p), -1);
        }
    }

    /** "NONE: none, no such one" */
    private static void p27PartyOfNoSuchOne() {
        TurretViews x = small();
        Check.is("two", x.party(), 2);
        Check.is("p", x.partyOf(0), 0);
        Check.is("q", x.partyOf(1), 1);
        Check.is("r has none", x.partyOf(2), -1);
        Check.is("partyOf(3)", x.partyOf(3), -1);
        Check.is("partyOf(6)", x.partyOf(6), -1);
        for (int no : NO_SUCH) {
            Check.is("partyOf(" + no + ")", x.partyOf(no), -1);
        }
    }

    /** "that in which nothing changes counted" */
    private static void p28TeaOfNobody() {
        Check.is("nobody", new TurretViews().tea(), 1);
        Check.is("nothing to change", Check.of("person p 5;person q 5;").tea(), 1);
        Check.is("a change, then none", Check.of("person p 5;person q 5;thinks p sea;").tea(), 2);
    }

    private static void p29TeaOfAheadOfAny() {
        TurretViews x = small();
        for (int p = 0; p < 3; p++) {
            Check.is("ahead of any", x.teaOf(p), -1);
        }
    }

    /** "NONE: no such one" */
    private static void p29TeaOfNoSuchOne() {
        TurretViews x = Check.of("person p 5;person q 5;");
        x.tea();
        Check.is("nothing is no NONE", x.teaOf(1), 0);
        Check.is("teaOf(2)", x.teaOf(2), -1);
        Check.is("teaOf(6)", x.teaOf(6), -1);
        for (int no : NO_SUCH) {
            Check.is("teaOf(" + no + ")", x.teaOf(no), -1);
        }
    }

    /** "NONE: never" */
    private static void p30WhenNever() {
        TurretViews x = small();
        for (int view = 0; view < 8; view++) {
            Check.is("without a vane", x.when(0, view), view == 1 ? 0 : -1);
        }
        TurretViews y = Check.of("turret t round sea 5;");
        Check.is("at it, but not first", y.when(0, 2), -1);
    }

    /** "(0: now)" */
    private static void p30WhenNow() {
        TurretViews x = small();
        Check.is("now", x.when(1, 7), 0);
        Check.is("all round", x.when(1, 0), 1);
        Check.is("the last one", x.when(1, 6), 7);
        x.days(7);
        Check.is("now", x.when(1, 6), 0);
        Check.is("next", x.when(1, 7), 1);
    }

    private static void p30WhenNoSuchOnes() {
        TurretViews x = small();
        for (int no : NO_SUCH) {
            Check.is("when(" + no + ", 1)", x.when(no, 1), -1);
            Check.is("when(0, " + no + ")", x.when(0, no), -1);
            Check.is("when(1, " + no + ")", x.when(1, no), -1);
        }
        Check.is("when(2, 1)", x.when(2, 1), -1);
    }

    /** "DAY 400 no matter" */
    private static void p30WhenBeyondDayFourHundred() {
        TurretViews x = onDay(SMALL, 399);
        int view = (7 + 399) % 8;
        Check.is("in one", x.when(1, (view + 1) % 8), 1);
        Check.is("in seven", x.when(1, (view + 7) % 8), 7);
        x.days(1);
        Check.is("in seven from 400 on", x.when(1, view), 7);
    }

    private static void p31CardNoSuchOne() {
        TurretViews x = small();
        for (int no : NO_SUCH) {
            Check.is("card(" + no + ")", x.card(no), -1);
        }
        Check.is("card(3)", x.card(3), -1);
        Check.is("card(2)", x.card(2), 16);
    }

    /** "NONE: none such" */
    private static void p32ByteAtNoneSuch() {
        TurretViews x = small();
        Check.is("ahead of any", x.byteAt(0), -1);
        Check.is("p thinks war", x.card(0), 12);
        Check.is("the first", x.byteAt(0), 'p');
        Check.is("the last", x.byteAt(11), 'r');
        for (int no : new int[] {-1, 12, 13, 95, 96, 97, LEAST, GREATEST}) {
            Check.is("byteAt(" + no + ")", x.byteAt(no), -1);
        }
        x.climb(0, 0);
        Check.is("the card is as it was", x.byteAt(1), ' ');
        Check.is("another one", x.card(2), 16);
        Check.is("a shorter one behind", x.card(0), "p on t thinks sea".length());
        Check.is("its last", x.byteAt(16), 'a');
        Check.is("none behind it", x.byteAt(17), -1);
    }

    private static void p32ByteAtStaysByNone() {
        TurretViews x = small();
        x.card(1);
        x.card(9);
        Check.is("the latest CARD", x.byteAt(0), 'q');
    }

    // ---- 33 to 36

    /** "n (1 to 60) .. NONE: not as told" */
    private static void p33DrawnNotAsTold() {
        TurretViews x = small();
        for (int no : new int[] {0, -1, 61, LEAST, GREATEST}) {
            Check.is("drawn(" + no + ", 1)", x.drawn(no, 1), -1);
        }
        same("refused", x, small());
        Check.is("drawn(1, 1)", x.drawn(1, 1), 1);
        Check.is("drawn(60, 1)", x.drawn(60, 1), 60);
    }

    /** "how many went by" */
    private static void p33DrawnHowManyWentBy() {
        TurretViews x = onDay(SMALL, 398);
        Check.is("two were left", x.drawn(3, 8), 2);
        Check.is("none was left", x.drawn(3, 8), 0);
        Check.is("all are over", x.now(0), 400);
    }

    /** "n (1 to 30) .. NONE: no such ones" */
    private static void p34OddsNoSuchOnes() {
        TurretViews x = small();
        for (int no : NO_SUCH) {
            Check.is("odds(" + no + ", 1, 1)", x.odds(no, 1, 1), -1);
        }
        for (int no : new int[] {0, -1, 31, LEAST, GREATEST}) {
            Check.is("odds(0, " + no + ", 1)", x.odds(0, no, 1), -1);
        }
        Check.is("odds(3, 1, 1)", x.odds(3, 1, 1), -1);
        TurretViews y = Check.of("person p 5;person q 5;wants q sea;");
        Check.is("by each of the most seeds", y.odds(0, 30, 1), 30);
        Check.is("by none of them", y.odds(1, 30, 1), 0);
        Check.is("by the one seed", y.odds(0, 1, 1), 1);
        Check.is("nobody", new TurretViews().odds(0, 1, 1), -1);
    }

    /** "seeds x, x and 1, ..": behind the greatest int comes the least */
    private static void p34OddsOfSeedsThatWrap() {
        TurretViews x = small();
        x.image(0);
        for (int p = 0; p < 3; p++) {
            int due = 0;
            for (int i = 0; i < 30; i++) {
                x.restore(0);
                x.drawn(20, i < 15 ? GREATEST - 14 + i : LEAST + i - 15);
                due += x.now(3) >> p & 1;
            }
            x.restore(0);
            Check.is("odds of " + p, x.odds(p, 30, GREATEST - 14), due);
        }
    }

    private static void p34OddsNearTheEnd() {
        TurretViews x = onDay(SMALL, 395);
        x.image(0);
        int due = 0;
        for (int i = 0; i < 30; i++) {
            x.restore(0);
            Check.is("five are left", x.drawn(20, 70 + i), 5);
            due += x.now(3) & 1;
        }
        x.restore(0);
        Check.is("by those that are left", x.odds(0, 30, 70), due);
        TurretViews y = onDay(SMALL, 400);
        Check.is("as he is now", y.odds(0, 30, 70), 0);
    }

    /** "-1000: another lives (the tape stays)" */
    private static void p35BookAnotherLives() {
        TurretViews x = small();
        for (int no : new int[] {-1, 2, 3, LEAST, GREATEST}) {
            Check.is("book(" + no + ")", Check.book(x, "day 1;", no), -1000);
            Check.is("the tape stays", x.count(2), 6);
        }
        Check.is("nothing was told", x.told(0), -1);
        Check.is("no day went", x.now(0), 0);
        Check.is("the tape is still a BOOK", x.book(1), -1);
    }

    /** "it is judged, all staying as it is (lives 0)" */
    private static void p35BookJudgedStays() {
        TurretViews x = small();
        Check.is("judged", Check.book(x, "p climbs t;storm 3;wall u;day 9;p lands;p tells q sea;", 0), -1);
        same("all stays", x, small());
        Check.is("the tape", x.count(2), 0);
        Check.is("the day there", x.told(2), 9);
    }

    /** "lived as far as it is not WRONG (1): the LINE that is WRONG; NONE: none" */
    private static void p35BookLivedAsFar() {
        TurretViews x = small();
        Check.is("the third", Check.book(x, "day 2;wall t;p climbs t;day 3;", 1), 2);
        Check.is("the day", x.now(0), 2);
        Check.is("walled", x.now(4), 1);
        Check.is("the first", Check.book(x, "wall t;day 1;", 1), 0);
        Check.is("none", Check.book(x, "unwall t;", 1), -1);
    }

    /** "-2 less the place of a FAULT" */
    private static void p35BookFaultLivesNothing() {
        TurretViews x = small();
        Check.is("at 0", Check.book(x, "!", 1), -2);
        Check.is("at the end", Check.book(x, "day 5;wall t;day", 1), -2 - 16);
        same("nothing was lived", x, small());
    }

    /** "NONE: another what, or ahead of any" */
    private static void p36ToldAheadOfAny() {
        TurretViews x = small();
        Check.book(x, "!", 1);
        Check.book(x, "day 1;", 5);
        for (int what = 0; what < 4; what++) {
            Check.is("ahead of any", x.told(what), -1);
        }
    }

    private static void p36ToldAnotherWhat() {
        TurretViews x = small();
        Check.book(x, "day 1;", 1);
        for (int what : new int[] {-1, 4, 5, LEAST, GREATEST}) {
            Check.is("told(" + what + ")", x.told(what), -1);
        }
    }

    /** "Of the latest book() that had no FAULT (and was not -1000)" */
    private static void p36ToldStaysByAFault() {
        TurretViews x = small();
        Check.book(x, "p climbs t;day 3;q lands;", 0);
        Check.book(x, "day 1;!", 1);
        Check.book(x, "day 1;", 7);
        Check.is("why", x.told(0), 11);
        Check.is("LINES", x.told(1), 2);
        Check.is("the DAY", x.told(2), 3);
        Check.is("pleased", x.told(3), 1);
    }

    /** "0: it was not; 1 to 4 as for climbing, 11 .., 51 unwalling" */
    private static void p36ToldWhy() {
        String[] books = {"day 1;", "q climbs t;q climbs u;", "q climbs t;p climbs t;", "wall t;p climbs t;", "p climbs u;", "p lands;",
            "p tells p war;", "p tells q sea;", "p tells q war;p tells q war;", "storm 20;", "wall t;wall t;", "q climbs t;wall t;",
            "unwall t;"};
        int[] whys = {0, 1, 2, 3, 4, 11, 21, 22, 23, 31, 41, 42, 51};
        for (int i = 0; i < books.length; i++) {
            TurretViews x = small();
            Check.book(x, books[i], i & 1);
            Check.is("why is " + books[i] + " WRONG", x.told(0), whys[i]);
        }
    }

    /** "61: fewer DAYS are left" */
    private static void p36ToldFewerDaysAreLeft() {
        TurretViews x = onDay(SMALL, 395);
        Check.is("just as many", Check.book(x, "day 5;", 0), -1);
        Check.is("told", x.told(2), 400);
        Check.is("one fewer", Check.book(x, "day 6;", 1), 0);
        Check.is("why", x.told(0), 61);
        Check.is("no day went", x.now(0), 395);
        Check.is("then none is left", Check.book(x, "day 5;day 1;", 1), 1);
        Check.is("why", x.told(0), 61);
        Check.is("the DAY", x.told(2), 400);
    }

    // ---- 37 to 41

    /** "-1 less the place of a FAULT: it stays" */
    private static void p37SentenceStaysByAFault() {
        TurretViews x = small();
        Check.sentence(x, "has duty");
        Check.is("at 0", Check.sentence(x, "!"), -1);
        Check.is("at the end", Check.sentence(x, "up or"), -6);
        Check.is("an empty one", x.sentence(), -1);
        Check.is("it stays", x.said(0), 1);
        Check.is("of one", x.said(-1), 1);
    }

    private static void p37SentenceEmptiesTheTape() {
        TurretViews x = small();
        Check.sentence(x, "up");
        Check.is("behind a sound one", x.count(2), 0);
        Check.sentence(x, "up up");
        Check.is("behind a FAULT", x.count(2), 0);
    }

    /** "NONE: there is no SENTENCE" */
    private static void p38SaidWithoutASentence() {
        TurretViews x = small();
        for (int k : new int[] {-1, 0, 1, LEAST, GREATEST}) {
            Check.is("said(" + k + ")", x.said(k), -1);
        }
    }

    /** "how many (k NONE), or the k-th. NONE: .. none such" */
    private static void p38SaidNoneSuch() {
        TurretViews x = small();
        Check.sentence(x, "number>0");
        Check.is("how many", x.said(-1), 2);
        Check.is("the first", x.said(0), 1);
        Check.is("the second", x.said(1), 2);
        for (int k : new int[] {2, 3, 6, -2, LEAST, GREATEST}) {
            Check.is("said(" + k + ")", x.said(k), -1);
        }
        Check.sentence(x, "up");
        Check.is("of nobody", x.said(-1), 0);
        Check.is("none such", x.said(0), -1);
    }

    /** "false: no such one" */
    private static void p39ImageNoSuchPlace() {
        TurretViews x = small();
        for (int k : new int[] {-1, 2, 3, LEAST, GREATEST}) {
            Check.no("image(" + k + ")", x.image(k));
        }
        Check.no("nothing is kept at 0", x.restore(0));
        Check.no("nothing is kept at 1", x.restore(1));
        Check.yes("image(0)", x.image(0));
        Check.yes("image(1)", x.image(1));
        Check.yes("of a new object", new TurretViews().image(1));
    }

    /** The latest image() of a place is what is kept there, and the other place stays. */
    private static void p39ImageAnew() {
        TurretViews x = small();
        x.image(0);
        x.image(1);
        x.days(3);
        x.image(0);
        x.days(3);
        x.restore(0);
        Check.is("the later one", x.now(0), 3);
        x.restore(1);
        Check.is("the other place", x.now(0), 0);
        x.climb(0, 0);
        x.restore(1);
        same("what is kept stays as it was", x, small());
    }

    /** "false: no such one" */
    private static void p40RestoreNoSuchPlace() {
        TurretViews x = small();
        x.image(0);
        x.image(1);
        x.days(1);
        for (int k : new int[] {-1, 2, 3, LEAST, GREATEST}) {
            Check.no("restore(" + k + ")", x.restore(k));
        }
        Check.is("all stays", x.now(0), 1);
        Check.is("and can be undone", x.undo(), 0);
    }

    /** "or nothing is kept there" */
    private static void p40RestoreNothingKept() {
        TurretViews x = small();
        x.image(1);
        x.days(1);
        Check.no("restore(0)", x.restore(0));
        Check.is("all stays", x.now(0), 1);
        Check.is("and can be undone", x.undo(), 0);
        Check.yes("restore(1)", x.restore(1));
    }

    /** "nothing can be undone" */
    private static void p40RestoreNothingCanBeUndone() {
        TurretViews x = small();
        x.days(1);
        x.image(0);
        x.days(1);
        x.restore(0);
        Check.is("none", x.undo(), -1);
        Check.is("the day", x.now(0), 1);
        x.days(4);
        Check.is("what comes then can", x.undo(), 0);
        Check.is("the day", x.now(0), 1);
        Check.is("none", x.undo(), -1);
    }

    /** "the tape, and what other calls told last, stays" */
    private static void p40RestoreLeavesTapeAndTold() {
        TurretViews x = Check.of(SMALL + "turret v round duty 60;");
        x.image(0);
        x.soonest(1);
        Check.made(x, 0, 2);
        x.cover();
        x.party();
        x.tea();
        x.card(2);
        Check.book(x, "day 1;p lands;", 0);
        Check.sentence(x, "on p");
        Check.tape(x, "abcd");
        x.restore(0);
        Check.is("the tape", x.count(2), 4);
        Check.is("soonestAt", x.soonestAt(0), 1);
        Check.is("madeAt", x.madeAt(0), 0);
        Check.is("covering", x.covering(), 4);
        Check.is("partyOf", x.partyOf(0), 0);
        Check.yes("teaOf", x.teaOf(0) != -1);
        Check.is("byteAt", x.byteAt(0), 'r');
        Check.is("told", x.told(0), 11);
        Check.is("fault", x.fault(), 3);
    }

    private static void p40RestoreOfNoSentence() {
        TurretViews x = small();
        x.image(0);
        Check.sentence(x, "up");
        x.image(1);
        x.restore(0);
        Check.is("there was none", x.said(-1), -1);
        x.restore(1);
        Check.is("there was one", x.said(-1), 0);
    }

    /** "NONE for another what" */
    private static void p41CountAnotherWhat() {
        TurretViews x = small();
        for (int what : new int[] {-1, 3, 4, LEAST, GREATEST}) {
            Check.is("count(" + what + ")", x.count(what), -1);
        }
    }

    /** "An object is used for at most 512 calls": the last of them is answered as the first. */
    private static void manyCalls() {
        TurretViews x = Check.of("turret t slit sea 5;person p 5;");
        // made, fed twice, ended twice, told: six calls so far at most
        for (int i = 0; i < 252; i++) {
            Check.is("climb " + i, x.climb(0, 0), 0);
            Check.is("land " + i, x.land(0), 0);
        }
        Check.is("climbs", x.person(0, 4), 252);
        Check.is("eight can be undone", x.undo(), 7);
    }
}
