/** The examples of README.md answer as it says. */
public final class ReadmeTests {
    public static void main(String[] args) {
        TurretViews x = new TurretViews();
        byHand(x);
        byLoop(x);
        Check.end();
    }

    private static void byHand(TurretViews x) {
        Check.is("feed", x.feed(0x74757272, 0x65742074, 0x20736c69, 0x74207365, 0x6120353b), 20);
        Check.is("feed", x.feed(0x70657273, 0x6f6e2070, 0x20393b00, 0, 0), 40);
        Check.yes("end(31)", x.end(31));
        Check.is("suburb()", x.suburb(), 2);
        Check.is("turret(0, 6)", x.turret(0, 6), 2);
        Check.is("climb(0, 0)", x.climb(0, 0), 0);
        Check.is("person(0, 0)", x.person(0, 0), 2);
        Check.is("undo()", x.undo(), 0);
    }

    private static void byLoop(TurretViews x) {
        put(x, "turret t slit sea 5; turret u bow tea 9 vane; person p 9; person q 4; thinks q war; wants q sea;");
        Check.is("suburb()", x.suburb(), 6);
        Check.is("soonest(0)", x.soonest(0), 0);
        Check.is("soonest(1)", x.soonest(1), -1);
        put(x, "p climbs t; p lands; p tells q sea; day 2;");
        Check.is("book(0)", x.book(0), -1);
        Check.is("told(3)", x.told(3), 3);
        put(x, "has war and not up");
        Check.is("sentence()", x.sentence(), 3);
        Check.is("said(-1)", x.said(-1), 1);
        Check.is("said(0)", x.said(0), 1);
    }

    private static void put(TurretViews x, String text) {
        x.end(0);
        int[] five = new int[5];
        for (int from = 0; from < text.length(); from += 20) {
            for (int i = 0; i < 20; i++) {
                int sign = from + i < text.length() ? text.charAt(from + i) : 0;
                five[i / 4] = five[i / 4] << 8 | sign;
            }
            x.feed(five[0], five[1], five[2], five[3], five[4]);
        }
        x.end(text.length());
    }
}
