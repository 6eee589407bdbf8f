/** Promises 4, 5. */
public final class SuburbTests {
    public static void main(String[] args) {
        sound();
        stays();
        tokens();
        numbers();
        names();
        views();
        tooMany();
        tooLong();
        faults();
        fresh();
        Check.end();
    }

    private static void sound() {
        TurretViews x = new TurretViews();
        Check.is("suburb() of an empty tape", x.suburb(), 0);
        Check.is("suburb() of blanks", Check.suburb(x, " \n  "), 0);
        Check.is("two LINES", Check.suburb(x, "turret t slit sea 60 vane;person p 0;"), 2);
        Check.is("fault()", x.fault(), 0);
        Check.is("its height", x.turret(0, 2), 60);
        Check.is("its vane", x.turret(0, 3), 1);
        Check.is("blanks of both sorts", Check.suburb(x, "\n turret\nt slit sea 001;\n\nperson   p 060 ;\n"), 2);
        Check.is("its height", x.turret(0, 2), 1);
        Check.is("his nerve", x.person(0, 2), 60);
        Check.is("wants and thinks may be opposite", Check.suburb(x,
            "person p 5;thinks p sea;wants p war;wants p tea;thinks p tea;"), 5);
        Check.is("he has", x.person(0, 0), 2 + 128);
        Check.is("he wants", x.person(0, 1), 32 + 128);
        Check.is("a name of seven and one that is nearly a word",
            Check.suburb(x, "turret abcdefg slit sea 5;person nothing 5;person turrets 5;"), 3);
        Check.is("the most of all", Check.suburb(x, seven() + six()), 13);
    }

    private static String seven() {
        StringBuilder text = new StringBuilder();
        for (char c = 'a'; c < 'h'; c++) {
            text.append("turret ").append(c).append(" bow sea 5;");
        }
        return text.toString();
    }

    private static String six() {
        StringBuilder text = new StringBuilder();
        for (char c = 'p'; c < 'v'; c++) {
            text.append("person ").append(c).append(" 5;");
        }
        return text.toString();
    }

    private static void stays() {
        TurretViews x = Check.of("turret t slit sea 5;person p 9;wants p sea;");
        Check.is("climb", x.climb(0, 0), 0);
        Check.is("sentence", Check.sentence(x, "up"), 1);
        Check.is("a FAULT", Check.suburb(x, "person q 5"), -11);
        Check.is("fault()", x.fault(), 1);
        Check.is("the tape", x.count(2), 0);
        Check.is("he is up", x.person(0, 3), 0);
        Check.is("the sentence stays", x.said(-1), 1);
        Check.is("undo goes on", x.undo(), 0);
        x.climb(0, 0);
        x.days(3);
        Check.is("a new one", Check.suburb(x, "person q 5;turret t slit sea 5;"), 2);
        Check.is("fault() now", x.fault(), 0);
        Check.is("day 0", x.now(0), 0);
        Check.is("all down", x.now(1), 0);
        Check.is("no climbs", x.now(5), 0);
        Check.is("he has nothing", x.person(0, 0), 0);
        Check.is("he wants nothing", x.person(0, 1), 0);
        Check.is("no sentence", x.said(-1), -1);
        Check.is("nothing to undo", x.undo(), -1);
        x.wall(0);
        Check.is("a new one again", Check.suburb(x, "turret t slit sea 5;"), 1);
        Check.is("nothing walled", x.now(4), 0);
    }

    private static void tokens() {
        Check.suburbFault("Person p 5;", 0, 1);
        Check.suburbFault("person P 5;", 7, 1);
        Check.suburbFault("person p\t5;", 8, 1);
        Check.suburbFault("person p 5.", 10, 1);
        Check.suburbFault(".", 0, 1);
        Check.suburbFault(";", 0, 1);
        Check.suburbFault("person p 5;;", 11, 1);
        Check.suburbFault("person p2 5;", 7, 1);
        Check.suburbFault("person 2p 5;", 7, 1);
        Check.suburbFault("person p 5x;", 9, 1);
        Check.suburbFault("person p5;", 7, 1);
        Check.suburbFault("person abcdefgh 5;", 7, 1);
        Check.suburbFault("person p 0005;", 9, 1);
        Check.suburbFault("person p 9999999999999999;", 9, 1);
        Check.suburbFault("person p " + (char) 233 + ";", 9, 1);
        Check.suburbFault("foo p 5;", 0, 1);
        Check.suburbFault("5 p 5;", 0, 1);
        Check.suburbFault("climbs p 5;", 0, 1);
        Check.suburbFault("turret t tower sea 5;", 9, 1);
        Check.suburbFault("turret t sea slit 5;", 9, 1);
        Check.suburbFault("turret t slit air 5;", 14, 1);
        Check.suburbFault("turret t slit sea five;", 18, 1);
        Check.suburbFault("turret t slit sea 5 vanes;", 20, 1);
        Check.suburbFault("turret t slit sea 5 vane vane;", 25, 1);
        Check.suburbFault("person p 5 vane;", 11, 1);
        Check.suburbFault("thinks tea tea;", 7, 1);
        Check.suburbFault("person p 5;thinks p p;", 20, 1);
        Check.suburbFault("person p 5;thinks p slit;", 20, 1);
        Check.suburbFault("person p 5;thinks 5 sea;", 18, 1);
        // the end
        Check.suburbFault("person", 6, 1);
        Check.suburbFault("person p 5", 10, 1);
        Check.suburbFault("person p 5 \n ", 13, 1);
        Check.suburbFault("turret t slit sea 5 vane", 24, 1);
    }

    /** Nothing of what was judged or drawn ahead is so in a new one. */
    private static void fresh() {
        String text = "turret a slit sea 9 vane;turret b bow sea 9;person p 60;person q 60;thinks p tea;wants q sea;";
        TurretViews x = Check.of(text);
        Check.book(x, "p climbs a;p lands;p climbs a;wall b;day 5;q tells p tea;", 0);
        Check.is("a new one", Check.suburb(x, "turret b slit sea 9;turret a slit sea 8;person q 60;person p 3;"), 4);
        TurretViews y = Check.of("turret b slit sea 9;turret a slit sea 8;person q 60;person p 3;");
        DayTests.alike("new behind a judged book", x, y);
        for (int what = 0; what < 6; what++) {
            Check.is("now(" + what + ")", x.now(what), what == 2 || what == 3 ? 3 : 0);
        }
        Check.is("no vane", x.turret(0, 3), 0);
        Check.is("no climbs", x.person(0, 4), 0);
        Check.is("down", x.person(0, 3), -1);
        x.odds(0, 3, 7);
        Check.suburb(x, text);
        DayTests.alike("new behind odds", x, Check.of(text));
    }

    private static void numbers() {
        Check.suburbFault("turret t slit sea 0;", 18, 2);
        Check.suburbFault("turret t slit sea 61;", 18, 2);
        Check.suburbFault("turret t slit sea 999;", 18, 2);
        Check.suburbFault("person p 61;", 9, 2);
        Check.suburbFault("person p 061;", 9, 2);
        Check.is("the least numbers", Check.suburb(new TurretViews(), "turret t slit sea 1;person p 000;"), 2);
    }

    private static void names() {
        String[] words = ("turret vane person thinks wants slit bow round octagon duty sea thrift dogs love war music "
            + "tea climbs lands tells storm wall unwall day or and not up mild pleased has on views nerve climbed "
            + "number").split(" ");
        Check.is("words", words.length, 36);
        for (String word : words) {
            Check.suburbFault("person " + word + " 5;", 7, 1);
            Check.suburbFault("turret " + word + " slit sea 5;", 7, 1);
            Check.suburbFault("thinks " + word + " sea;", 7, 1);
        }
        Check.suburbFault("person p 5;person p 5;", 18, 3);
        Check.suburbFault("turret t slit sea 5;person t 5;", 27, 3);
        Check.suburbFault("person t 5;turret t slit sea 5;", 18, 3);
        Check.suburbFault("thinks p sea;person p 5;", 7, 3);
        Check.suburbFault("turret t slit sea 5;wants t sea;", 26, 3);
        // what is first along the text is the FAULT
        Check.suburbFault("person p 5;person p 61;", 18, 3);
        Check.suburbFault("person p 61;person p 5;", 9, 2);
    }

    private static void views() {
        Check.suburbFault("person p 5;thinks p sea;thinks p sea;", 33, 3);
        Check.suburbFault("person p 5;thinks p sea;thinks p war;", 33, 3);
        Check.suburbFault("person p 5;thinks p tea;thinks p dogs;", 33, 3);
        Check.suburbFault("person p 5;wants p duty;wants p love;", 32, 3);
        Check.suburbFault("person p 5;wants p thrift;wants p thrift;", 34, 3);
        TurretViews x = new TurretViews();
        Check.is("four that agree", Check.suburb(x,
            "person p 5;thinks p duty;thinks p sea;thinks p music;thinks p tea;person q 5;thinks q love;"), 7);
        Check.is("he has", x.person(0, 0), 1 + 2 + 64 + 128);
        Check.is("the other one has", x.person(1, 0), 16);
    }

    private static void tooMany() {
        Check.suburbFault(seven() + "turret h slit sea 5;", seven().length(), 4);
        Check.suburbFault(seven() + "turret a tower air 99", seven().length(), 4);
        Check.suburbFault(six() + " person h 5;", six().length() + 1, 4);
        Check.suburbFault(six() + " turret p slit sea 5;", six().length() + 8, 3);
    }

    private static void tooLong() {
        String line = "person p 5;";
        TurretViews x = new TurretViews();
        Check.is("900 bytes", Check.suburb(x, line + Check.blanks(889)), 1);
        Check.suburbFault(line + Check.blanks(890), 900, 1);
        Check.suburbFault(Check.blanks(889) + line + "p", 900, 1);
        Check.suburbFault(Check.blanks(890) + line, 900, 1);
        // a TOKEN that begins ahead of 900 is read whole
        Check.suburbFault(Check.blanks(891) + "person abcdefg 5;", 900, 1);
        Check.suburbFault(Check.blanks(891) + "person  abcdefgh 5;", 899, 1);
        Check.suburbFault(Check.blanks(890) + "person  slit 5;", 898, 1);
        Check.suburbFault(line + Check.blanks(880) + "person p 5;", 898, 3);
        Check.suburbFault(Check.blanks(890) + "person p 61;", 899, 2);
        Check.suburbFault(Check.blanks(891) + "person p 61;", 900, 1);
        Check.suburbFault(Check.blanks(890) + "person p 600000;", 899, 1);
        // as many TOKENS as bytes
        Check.suburbFault(";".repeat(940), 0, 1);
        Check.suburbFault("(".repeat(900), 0, 1);
        // a FAULT ahead goes first
        Check.suburbFault("person p 61;" + Check.blanks(900), 9, 2);
        Check.suburbFault("person p 5" + Check.blanks(900), 900, 1);
    }

    private static void faults() {
        TurretViews x = Check.of("turret t slit sea 5;person p 5;");
        Check.suburb(x, "person p 61;");
        Check.is("fault() of suburb()", x.fault(), 2);
        Check.is("book() of -1000", Check.book(x, "day 5;", 2), -1000);
        Check.is("fault() stays", x.fault(), 2);
        x.end(0);
        Check.is("a sound book", x.book(0), -1);
        Check.is("fault() is over", x.fault(), 0);
        Check.book(x, "q lands;", 1);
        Check.is("fault() of book()", x.fault(), 3);
        Check.sentence(x, "up");
        Check.is("fault() is over again", x.fault(), 0);
        Check.sentence(x, "not not not not not not not not up");
        Check.is("fault() of sentence()", x.fault(), 4);
        x.made();
        x.days(1);
        Check.is("fault() of the latest text", x.fault(), 4);
        Check.suburb(x, "");
        Check.is("fault() of a sound suburb()", x.fault(), 0);
    }
}
