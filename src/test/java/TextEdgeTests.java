/** The words and limits of the texts, each sentence that names an edge by a test of its own. */
public final class TextEdgeTests {
    private static final String[] VIEWS = {"duty", "sea", "thrift", "dogs", "love", "war", "music", "tea"};
    private static final String NAMES = "turret t slit sea 5;turret u bow tea 5;person p 9;person q 9;";

    public static void main(String[] args) {
        tokens();
        suburbs();
        books();
        sentences();
        faults();
        Check.end();
    }

    private static void tokens() {
        blanksAreTwo();
        blanksMayLack();
        wordsOfSeven();
        numbersOfThree();
        wordGoesOn();
        numberGoesOn();
        marks();
        noToken();
    }

    private static void suburbs() {
        mostBytesOfASuburb();
        emptySuburb();
        highIsOneToSixty();
        nerveIsNoughtToSixty();
        eachTwoOnce();
        noTwoOpposite();
        oppositeIsFourOnAllRound();
        shapesAndViewsByNumber();
        noToldWordIsAName();
        nearlyToldWordsAreNames();
        aNameIsToldOnce();
        mostTurrets();
        mostPersons();
        vaneMayLack();
    }

    private static void books() {
        mostBytesOfABook();
        emptyBook();
        mostLinesOfABook();
        stormsAndDaysOneToSixty();
        personsTurretsAreTold();
    }

    private static void sentences() {
        mostBytesOfASentence();
        emptySentence();
        mostOnes();
        mostWithin();
        andGoesAheadOfOr();
        notIsOfOneAlone();
        mildHasNoView();
        whoWantsNothingIsPleased();
        onIsUpThere();
        signs();
        greatestNumbers();
        saidOfNobody();
    }

    private static void faults() {
        firstAlongTheText();
        ofOneTokenTheLeast();
        atTheEnd();
        atTheMostBytes();
        readWholeAtTheMostBytes();
        numberNotAsTold();
        nameTwiceNotOrOfAnotherSort();
        viewOfThinksAndWants();
        oneMoreThanThereMayBe();
    }

    private static void lines(String text, int due) {
        Check.is("suburb() of " + text, Check.suburb(new TurretViews(), text), due);
    }

    private static TurretViews two() {
        return Check.of(NAMES);
    }

    // ---- TOKENS

    /** "with blanks (32, 10) between them" */
    private static void blanksAreTwo() {
        lines(" \n person \n\n p  5 \n ; \n", 1);
        for (int sign = 0; sign < 256; sign++) {
            boolean other = sign != 10 && sign != 32 && !(sign >= '0' && sign <= '9') && !(sign >= 'a' && sign <= 'z');
            if (other) {
                Check.suburbFault("person p" + (char) sign + " 5;", 8, 1);
            }
        }
    }

    /** "or not" */
    private static void blanksMayLack() {
        lines("person p 5;person q 5;", 2);
        Check.is("a book", Check.book(two(), "p lands;q lands;", 0), 0);
        Check.is("a sentence", Check.sentence(two(), "(up)or(mild)and(views<5)"), 6);
    }

    /** "WORDS: small letters, 1 to 7" */
    private static void wordsOfSeven() {
        lines("person a 5;", 1);
        lines("person abcdefg 5;", 1);
        Check.suburbFault("person abcdefgh 5;", 7, 1);
        Check.suburbFault("person Abc 5;", 7, 1);
        TurretViews x = Check.of("person zzzzzzz 5;person azzzzzz 5;");
        Check.is("two of seven letters are two", x.count(1), 2);
    }

    /** "NUMBERS: 1 to 3 digits" */
    private static void numbersOfThree() {
        lines("person p 7;person q 07;person r 007;", 3);
        Check.suburbFault("person p 0007;", 9, 1);
        Check.suburbFault("person p -7;", 9, 1);
        Check.suburbFault("person p 99999999999999999999999;", 9, 1);
    }

    /** "A WORD .. goes on as long as small letters and digits do" */
    private static void wordGoesOn() {
        Check.suburbFault("personp 5;", 0, 1);
        Check.suburbFault("person p5;", 7, 1);
        Check.suburbFault("turret t slit sea 5 vane5;", 20, 1);
        Check.suburbFault("turret t slitsea 5;", 9, 1);
    }

    /** "A .. NUMBER goes on as long as small letters and digits do" */
    private static void numberGoesOn() {
        Check.suburbFault("turret t slit sea 5vane;", 18, 1);
        Check.suburbFault("person p 5 5;", 11, 1);
        Check.sentenceFault(two(), "views<5or up", 6, 1);
    }

    /** "; < = > ( ) ." */
    private static void marks() {
        for (String mark : new String[] {";", "<", "=", ">", "(", ")", "."}) {
            Check.suburbFault("person " + mark + " p", 7, 1);
            Check.bookFault(two(), "p " + mark, 2, 1);
        }
    }

    /** "what is not as told is no TOKEN" */
    private static void noToken() {
        Check.suburbFault("" + (char) 0, 0, 1);
        Check.suburbFault("" + (char) 255, 0, 1);
        Check.suburbFault("person p 5;" + (char) 13, 11, 1);
        Check.bookFault(two(), "day 5;,", 6, 1);
        Check.sentenceFault(two(), "up!", 2, 1);
    }

    // ---- SUBURB

    /** "A SUBURB is a text of at most 900 bytes" */
    private static void mostBytesOfASuburb() {
        lines(Check.blanks(889) + "person p 5;", 1);
        Check.suburbFault(Check.blanks(890) + "person p 5;", 900, 1);
        lines(Check.blanks(900), 0);
        Check.suburbFault(Check.blanks(901), 900, 1);
        Check.suburbFault(Check.blanks(940), 900, 1);
    }

    /** "{ LINE ; }": there may be none */
    private static void emptySuburb() {
        TurretViews x = two();
        Check.is("an empty text", Check.suburb(x, ""), 0);
        Check.is("no turrets", x.count(0), 0);
        Check.is("no persons", x.count(1), 0);
        lines("\n", 0);
        Check.suburbFault(";", 0, 1);
        Check.suburbFault("person p 5;;", 11, 1);
    }

    /** "HIGH .. (1 to 60)" */
    private static void highIsOneToSixty() {
        Check.suburbFault("turret t slit sea 0;", 18, 2);
        lines("turret t slit sea 1;", 1);
        lines("turret t slit sea 60;", 1);
        Check.suburbFault("turret t slit sea 61;", 18, 2);
        Check.suburbFault("turret t slit sea 999;", 18, 2);
        Check.suburbFault("turret t slit sea 000;", 18, 2);
    }

    /** "NERVE (0 to 60)" */
    private static void nerveIsNoughtToSixty() {
        lines("person p 0;", 1);
        lines("person p 60;", 1);
        Check.suburbFault("person p 61;", 9, 2);
        Check.suburbFault("person p 999;", 9, 2);
    }

    /** "each two once of a sort" */
    private static void eachTwoOnce() {
        Check.suburbFault("person p 5;thinks p sea;thinks p sea;", 33, 3);
        Check.suburbFault("person p 5;wants p sea;wants p sea;", 31, 3);
        lines("person p 5;thinks p sea;wants p sea;", 3);
        lines("person p 5;person q 5;thinks p sea;thinks q sea;wants p sea;wants q sea;", 6);
    }

    /** "no two OPPOSITE ones of a sort of one PERSON" */
    private static void noTwoOpposite() {
        Check.suburbFault("person p 5;thinks p sea;thinks p war;", 33, 3);
        Check.suburbFault("person p 5;wants p war;wants p sea;", 31, 3);
        lines("person p 5;thinks p sea;wants p war;", 3);
        lines("person p 5;person q 5;thinks p sea;thinks q war;", 4);
    }

    /** "numbered from 0, all round; OPPOSITE is the one 4 on" */
    private static void oppositeIsFourOnAllRound() {
        for (int one = 0; one < 8; one++) {
            for (int other = 0; other < 8; other++) {
                String text = "person p 5;wants p " + VIEWS[one] + ";wants p ";
                if (other == one || other == (one + 4) % 8) {
                    Check.suburbFault(text + VIEWS[other] + ";", text.length(), 3);
                } else {
                    lines(text + VIEWS[other] + ";", 3);
                }
            }
        }
    }

    /** "SHAPE: 'slit', .. numbered from 0. VIEW: 'duty', .. numbered from 0" */
    private static void shapesAndViewsByNumber() {
        String[] shapes = {"slit", "bow", "round", "octagon"};
        for (int i = 0; i < 8; i++) {
            TurretViews x = Check.of("turret t " + shapes[i % 4] + " " + VIEWS[i] + " 5;person p 5;thinks p " + VIEWS[i] + ";");
            Check.is("its shape", x.turret(0, 0), i % 4);
            Check.is("its view", x.turret(0, 1), i);
            Check.is("what he thinks", x.person(0, 0), 1 << i);
        }
    }

    /** "NAME: a WORD, none of those told here, in a BOOK or a SENTENCE" */
    private static void noToldWordIsAName() {
        String words = "turret vane person thinks wants slit bow round octagon duty sea thrift dogs love war music tea climbs lands "
            + "tells storm wall unwall day or and not up mild pleased has on views nerve climbed number";
        for (String word : words.split(" ")) {
            Check.suburbFault("person " + word + " 5;", 7, 1);
            Check.suburbFault("turret " + word + " slit sea 5;", 7, 1);
        }
    }

    private static void nearlyToldWordsAreNames() {
        lines("turret turre slit sea 5;person persons 5;person nothing 5;person o 5;person nots 5;person days 5;person an 5;", 7);
    }

    /** "told once", but anew in another SUBURB */
    private static void aNameIsToldOnce() {
        Check.suburbFault("person p 5;person p 5;", 18, 3);
        Check.suburbFault("turret p slit sea 5;turret p slit sea 5;", 27, 3);
        Check.suburbFault("person p 5;turret p slit sea 5;", 18, 3);
        Check.suburbFault("turret p slit sea 5;person p 5;", 27, 3);
        TurretViews x = Check.of("person p 5;");
        Check.is("again in another one", Check.suburb(x, "turret p slit sea 5;"), 1);
    }

    private static String turrets(int many) {
        StringBuilder text = new StringBuilder();
        for (int i = 0; i < many; i++) {
            text.append("turret t").append((char) ('a' + i)).append(" slit sea 5;");
        }
        return text.toString();
    }

    private static String persons(int many) {
        StringBuilder text = new StringBuilder();
        for (int i = 0; i < many; i++) {
            text.append("person p").append((char) ('a' + i)).append(" 5;");
        }
        return text.toString();
    }

    /** "7 TURRETS .. at most, numbered from 0" */
    private static void mostTurrets() {
        lines(turrets(7) + persons(6), 13);
        Check.suburbFault(turrets(8), turrets(7).length(), 4);
        TurretViews x = Check.of(turrets(7));
        Check.is("the last one", x.turret(6, 2), 5);
        Check.is("none behind it", x.turret(7, 2), -1);
    }

    /** "6 PERSONS at most" */
    private static void mostPersons() {
        Check.suburbFault(persons(7), persons(6).length(), 4);
        TurretViews x = Check.of(persons(6));
        Check.is("the last one", x.person(5, 2), 5);
        Check.throwsNone("none behind him", x, 6, 2);
    }

    /** "[ 'vane' ]" */
    private static void vaneMayLack() {
        TurretViews x = Check.of("turret t slit sea 5;turret u slit sea 5 vane;");
        Check.is("without", x.turret(0, 3), 0);
        Check.is("with", x.turret(1, 3), 1);
        Check.suburbFault("turret t slit sea 5 vane vane;", 25, 1);
        Check.suburbFault("turret t slit sea vane 5;", 18, 1);
    }

    // ---- BOOK

    /** "A BOOK is a text of at most 400 bytes" */
    private static void mostBytesOfABook() {
        TurretViews x = two();
        Check.is("400 bytes", Check.book(x, Check.blanks(394) + "day 5;", 0), -1);
        Check.bookFault(x, Check.blanks(395) + "day 5;", 400, 1);
        Check.is("400 blanks", Check.book(x, Check.blanks(400), 0), -1);
        Check.bookFault(x, Check.blanks(401), 400, 1);
        Check.is("nothing was lived", x.now(0), 0);
    }

    private static void emptyBook() {
        TurretViews x = two();
        Check.is("no LINES", Check.book(x, "", 1), -1);
        Check.is("none", x.told(1), 0);
        Check.bookFault(x, ";", 0, 1);
        Check.bookFault(x, "day 5", 5, 1);
    }

    /** "{ LINE ; }, 40 at most" */
    private static void mostLinesOfABook() {
        TurretViews x = two();
        Check.is("40", Check.book(x, "day 1;".repeat(40), 1), -1);
        Check.is("40 days", x.now(0), 40);
        Check.bookFault(x, "day 1;".repeat(41), 240, 4);
        Check.is("none of 41 is lived", x.now(0), 40);
    }

    /** "'storm' N (1 to 60)", "'day' N (1 to 60)" */
    private static void stormsAndDaysOneToSixty() {
        TurretViews x = Check.of("turret t slit sea 60;");
        for (String word : new String[] {"storm", "day"}) {
            int at = word.length() + 1;
            Check.bookFault(x, word + " 0;", at, 2);
            Check.bookFault(x, word + " 61;", at, 2);
            Check.bookFault(x, word + " 999;", at, 2);
            Check.is(word + " 1", Check.book(x, word + " 1;", 0), -1);
        }
        Check.is("day 60", Check.book(x, "day 60;", 0), -1);
        Check.is("storm 60 is WRONG, no FAULT", Check.book(x, "storm 60;", 0), 0);
        Check.is("storm 59", Check.book(x, "storm 59;", 0), -1);
    }

    private static void personsTurretsAreTold() {
        TurretViews x = two();
        Check.bookFault(x, "t climbs p;", 0, 3);
        Check.bookFault(x, "p climbs q;", 9, 3);
        Check.bookFault(x, "p tells t sea;", 8, 3);
        Check.bookFault(x, "wall p;", 5, 3);
        Check.bookFault(x, "unwall nobody;", 7, 3);
        Check.bookFault(new TurretViews(), "p lands;", 0, 3);
    }

    // ---- SENTENCE

    /** "A SENTENCE is a text of at most 200 bytes" */
    private static void mostBytesOfASentence() {
        TurretViews x = two();
        Check.is("200 bytes", Check.sentence(x, "up" + Check.blanks(198)), 1);
        Check.sentenceFault(x, "up" + Check.blanks(199), 200, 1);
        Check.sentenceFault(x, Check.blanks(200), 200, 1);
        Check.sentenceFault(x, Check.blanks(201), 200, 1);
    }

    /** There is one ONE at least. */
    private static void emptySentence() {
        TurretViews x = two();
        Check.sentenceFault(x, "", 0, 1);
        Check.sentenceFault(x, "\n", 1, 1);
        Check.sentenceFault(x, "()", 1, 1);
        Check.is("there is none", x.said(-1), -1);
    }

    /** "20 ONES" */
    private static void mostOnes() {
        TurretViews x = two();
        Check.is("20", Check.sentence(x, "up" + " or up".repeat(19)), 20);
        Check.sentenceFault(x, "up" + " or up".repeat(20), 120, 4);
        Check.is("brackets and nots among them", Check.sentence(x, "not(up)or ".repeat(6) + "not up"), 20);
        Check.sentenceFault(x, "not(up)or ".repeat(6) + "not not up", 68, 4);
        Check.sentenceFault(x, "not(up)or ".repeat(6) + "not(up)", 64, 4);
    }

    /** "8 within one another" */
    private static void mostWithin() {
        TurretViews x = two();
        Check.is("8 by nots", Check.sentence(x, "not ".repeat(7) + "up"), 8);
        Check.sentenceFault(x, "not ".repeat(8) + "up", 32, 4);
        Check.is("8 by brackets", Check.sentence(x, "(".repeat(7) + "up" + ")".repeat(7)), 8);
        Check.sentenceFault(x, "(".repeat(8) + "up" + ")".repeat(8), 8, 4);
        Check.is("by both", Check.sentence(x, "not(not(not(not up)))"), 8);
        Check.sentenceFault(x, "not(not(not(not(up))))", 16, 4);
        Check.is("side by side is not within", Check.sentence(x, "(up)or(up)or(up)or(up)or(up)or(up)or(up)or(up)or(up)"), 18);
    }

    private static void andGoesAheadOfOr() {
        TurretViews x = two();
        Check.sentence(x, "number=0 or number=1 and up");
        Check.is("the first one alone", x.said(-1), 1);
        Check.is("the first one", x.said(0), 0);
        Check.sentence(x, "(number=0 or number=1)and up");
        Check.is("nobody", x.said(-1), 0);
    }

    private static void notIsOfOneAlone() {
        TurretViews x = two();
        Check.sentence(x, "not up and number=1");
        Check.is("not up, and the second", x.said(0), 1);
        Check.sentence(x, "not(up or number=1)");
        Check.is("neither", x.said(0), 0);
    }

    /** "'mild' (he has no VIEW)" */
    private static void mildHasNoView() {
        TurretViews x = Check.of("person p 5;person q 5;thinks q sea;wants p tea;");
        Check.sentence(x, "mild");
        Check.is("one", x.said(-1), 1);
        Check.is("p", x.said(0), 0);
    }

    /** "'pleased' (he has all that he wants)" */
    private static void whoWantsNothingIsPleased() {
        TurretViews x = Check.of("person p 5;person q 5;wants q sea;person r 5;thinks r tea;wants r tea;wants r sea;");
        Check.sentence(x, "pleased");
        Check.is("one", x.said(-1), 1);
        Check.is("p", x.said(0), 0);
    }

    /** "'on' TURRET (he is up there)" */
    private static void onIsUpThere() {
        TurretViews x = two();
        Check.sentence(x, "on t");
        Check.is("all are down", x.said(-1), 0);
        x.climb(1, 0);
        x.climb(0, 1);
        Check.is("one", x.said(-1), 1);
        Check.is("q", x.said(0), 1);
    }

    /** "SIGN: < = >": each at, below and above */
    private static void signs() {
        TurretViews x = Check.of("person p 4;person q 5;person r 6;");
        String[] signs = {"<", "=", ">"};
        for (int i = 0; i < 3; i++) {
            Check.sentence(x, "nerve" + signs[i] + "5");
            Check.is(signs[i] + " one", x.said(-1), 1);
            Check.is(signs[i] + " who", x.said(0), i);
        }
        Check.sentenceFault(x, "nerve<>5", 6, 1);
        Check.sentenceFault(x, "nerve(5)", 5, 1);
        Check.sentenceFault(x, "nerve 5", 6, 1);
    }

    /** A NUMBER of a SENTENCE has no bounds but its digits. */
    private static void greatestNumbers() {
        TurretViews x = two();
        Check.is("999", Check.sentence(x, "views<999"), 1);
        Check.is("all", x.said(-1), 2);
        Check.is("000", Check.sentence(x, "views>000"), 1);
        Check.is("nobody", x.said(-1), 0);
        Check.sentenceFault(x, "views<1000", 6, 1);
    }

    /** "It is said of PERSONS": there may be none. */
    private static void saidOfNobody() {
        TurretViews x = Check.of("turret t slit sea 5;");
        Check.is("a sentence", Check.sentence(x, "not up"), 2);
        Check.is("of nobody", x.said(-1), 0);
        Check.is("none such", x.said(0), -1);
    }

    // ---- FAULTS

    /** "the first along the text" */
    private static void firstAlongTheText() {
        Check.suburbFault("person p 61;person p 5;Q", 9, 2);
        Check.suburbFault("person p 5;person p 61;Q", 18, 3);
        Check.suburbFault("person Q 61;", 7, 1);
        Check.suburbFault(persons(6) + "person pa 61;", persons(6).length(), 4);
        Check.suburbFault("person p 99;" + persons(6), 9, 2);
    }

    /** "of one TOKEN the least" */
    private static void ofOneTokenTheLeast() {
        TurretViews x = two();
        Check.bookFault(x, "day 1;".repeat(40) + "nobody lands;", 240, 3);
        Check.bookFault(x, "day 1;".repeat(40) + "t lands;", 240, 3);
        Check.bookFault(x, "day 1;".repeat(40) + "lands;", 240, 1);
        Check.sentenceFault(x, "up" + " or up".repeat(19) + " or )", 120, 1);
        Check.sentenceFault(x, "not ".repeat(8) + "p", 32, 1);
    }

    /** "the end: how many bytes there are" */
    private static void atTheEnd() {
        Check.suburbFault("person p 5", 10, 1);
        Check.suburbFault("person p 5   ", 13, 1);
        Check.bookFault(two(), "p climbs t\n", 11, 1);
        Check.sentenceFault(two(), "(up ", 4, 1);
    }

    /** "the most bytes told, if there are more and no FAULT is ahead" */
    private static void atTheMostBytes() {
        Check.suburbFault("person p 5;" + Check.blanks(890) + "?", 900, 1);
        Check.suburbFault("person p 5" + Check.blanks(890) + ";", 900, 1);
        Check.suburbFault("person p 61;" + Check.blanks(900), 9, 2);
        Check.suburbFault("person p 5;?" + Check.blanks(900), 11, 1);
        Check.bookFault(two(), "p climbs t" + Check.blanks(391), 400, 1);
        Check.bookFault(two(), "p climbs p" + Check.blanks(391), 9, 3);
        Check.sentenceFault(two(), "up or" + Check.blanks(196), 200, 1);
        Check.sentenceFault(two(), "up up" + Check.blanks(196), 3, 1);
    }

    /** "TOKENS that begin ahead of it are read whole" */
    private static void readWholeAtTheMostBytes() {
        Check.suburbFault(Check.blanks(892) + "person abcdefg 5;", 900, 1);
        Check.suburbFault(Check.blanks(892) + "person abcdefgh 5;", 899, 1);
        Check.suburbFault(Check.blanks(890) + "person p 60;", 900, 1);
        Check.suburbFault(Check.blanks(890) + "person p 61;", 899, 2);
        Check.suburbFault(Check.blanks(890) + "person p 6x;", 899, 1);
        Check.suburbFault(Check.blanks(899) + "personp;", 899, 1);
        Check.suburbFault("person ab 5;" + Check.blanks(880) + "person ab 5;", 899, 3);
        Check.bookFault(two(), Check.blanks(397) + "p lands;", 400, 1);
        Check.bookFault(two(), Check.blanks(397) + "p landsx;", 399, 1);
        Check.sentenceFault(two(), Check.blanks(199) + "mild", 200, 1);
        Check.sentenceFault(two(), Check.blanks(199) + "milder", 199, 1);
    }

    /** "2 a NUMBER that is not as told (at it)" */
    private static void numberNotAsTold() {
        Check.suburbFault("turret t slit sea  61 vane;", 19, 2);
        Check.suburbFault("person p\n61;", 9, 2);
        Check.bookFault(two(), "storm  99;", 7, 2);
        Check.bookFault(two(), "day 1;day 0;", 10, 2);
    }

    /** "3 a NAME told twice, not told, or of another sort" */
    private static void nameTwiceNotOrOfAnotherSort() {
        Check.suburbFault("thinks p sea;", 7, 3);
        Check.suburbFault("wants p sea;", 6, 3);
        Check.suburbFault("turret t slit sea 5;thinks t sea;", 27, 3);
        Check.suburbFault("wants p sea;person p 5;", 6, 3);
        Check.sentenceFault(two(), "on nobody", 3, 3);
        Check.sentenceFault(two(), "on p", 3, 3);
        // the SUBURB that stays is the one whose NAMES count
        TurretViews x = two();
        Check.suburb(x, "person z 5;person z 5;");
        Check.bookFault(x, "z lands;", 0, 3);
        Check.is("p is still told", Check.book(x, "p lands;", 0), 0);
    }

    /** "a VIEW of 'thinks', 'wants' that was told of him, or whose OPPOSITE one was (at the VIEW)" */
    private static void viewOfThinksAndWants() {
        Check.suburbFault("person p 5;thinks p tea;thinks p  tea;", 34, 3);
        Check.suburbFault("person p 5;wants p tea;wants p  dogs;", 32, 3);
        Check.suburbFault("person p 5;thinks p tea;thinks p p;", 33, 1);
    }

    /** "4 one more than there may be of a sort .. (at the LINE's first WORD)" */
    private static void oneMoreThanThereMayBe() {
        Check.suburbFault(turrets(7) + "\n turret th slit sea 5;", turrets(7).length() + 2, 4);
        Check.suburbFault(persons(6) + "\n person ph 5;", persons(6).length() + 2, 4);
        Check.suburbFault(turrets(7) + "turret", turrets(7).length(), 4);
        Check.bookFault(two(), "day 1;".repeat(40) + "\n p lands;", 242, 4);
        Check.bookFault(two(), "day 1;".repeat(40) + "storm 99;", 240, 4);
        lines(turrets(7) + persons(6) + "thinks pa sea;wants pf sea;", 15);
    }
}
