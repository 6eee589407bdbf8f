/** Promises 1, 2, 3, 41. */
public final class TapeTests {
    public static void main(String[] args) {
        newObject();
        feeding();
        ending();
        counting();
        Check.end();
    }

    private static void newObject() {
        TurretViews x = new TurretViews();
        Check.is("NONE", TurretViews.NONE, -1);
        for (int what = 0; what < 3; what++) {
            Check.is("count(" + what + ") of a new object", x.count(what), 0);
        }
        Check.is("fault() of a new object", x.fault(), 0);
        for (int what = 0; what < 7; what++) {
            Check.is("now(" + what + ") of a new object", x.now(what), 0);
        }
        Check.throwsNone("person(0, 0) of a new object", x, 0, 0);
        Check.is("turret(0, 0) of a new object", x.turret(0, 0), -1);
        Check.is("said(-1) of a new object", x.said(-1), -1);
        Check.is("undo() of a new object", x.undo(), -1);
    }

    private static void feeding() {
        TurretViews x = new TurretViews();
        int all = 0;
        for (int i = 1; i <= 47; i++) {
            all = x.feed(i, i, i, i, i);
            Check.is("feed " + i, all, 20 * i);
        }
        Check.is("feed beyond 940", x.feed(0, 0, 0, 0, 0), -1);
        Check.is("count(2) then", x.count(2), 940);
        Check.yes("end(921)", x.end(921));
        Check.is("feed to 941", x.feed(0, 0, 0, 0, 0), -1);
        Check.is("count(2) at 921", x.count(2), 921);
        Check.yes("end(920)", x.end(920));
        Check.is("feed to 940", x.feed(0, 0, 0, 0, 0), 940);
        // the highest byte of a number comes first
        TurretViews y = Check.of("turret t slit sea 5;");
        y.feed(0x00020000, 0, 0, 0, 0);
        y.end(2);
        Check.is("made() by bytes 0, 2", y.made(), 3);
        // a byte with its highest bit is 128 to 255
        TurretViews z = Check.of("turret t slit tea 5;");
        z.feed(0x80800000, 0, 0, 0, 0);
        z.end(2);
        Check.is("made() by bytes 128, 128", z.made(), 3);
    }

    private static void ending() {
        TurretViews x = new TurretViews();
        Check.yes("end(0) of an empty tape", x.end(0));
        Check.no("end(1) of an empty tape", x.end(1));
        Check.no("end(-1)", x.end(-1));
        Check.no("end of the least int", x.end(Integer.MIN_VALUE));
        x.feed(0, 0, 0, 0, 0);
        Check.no("end(21)", x.end(21));
        Check.is("count(2) behind end(21)", x.count(2), 20);
        Check.yes("end(20)", x.end(20));
        Check.yes("end(7)", x.end(7));
        Check.no("end(8)", x.end(8));
        Check.is("count(2) behind end(7)", x.count(2), 7);
        Check.is("feed behind 7", x.feed(0, 0, 0, 0, 0), 27);
        // the first bytes are those that stay
        Check.tape(x, "person p 5;person q 5;");
        x.end(11);
        Check.is("suburb() of the first LINE", x.suburb(), 1);
    }

    private static void counting() {
        TurretViews x = Check.of("turret s slit sea 5; turret b bow tea 20; person p 1;");
        Check.is("count(0)", x.count(0), 2);
        Check.is("count(1)", x.count(1), 1);
        Check.is("count(2)", x.count(2), 0);
        Check.is("count(3)", x.count(3), -1);
        Check.is("count(-1)", x.count(-1), -1);
        Check.is("count of the greatest int", x.count(Integer.MAX_VALUE), -1);
    }
}
