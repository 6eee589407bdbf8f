import java.util.NoSuchElementException;

/** What the tests share: counting wrong answers, and texts put on the tape. */
final class Check {
    private static int wrong = 0;

    private Check() {
    }

    static void is(String call, long got, long due) {
        if (got != due) {
            wrong++;
            System.out.println(call + " answered " + got + ", due is " + due);
        }
    }

    static void yes(String call, boolean got) {
        is(call, got ? 1 : 0, 1);
    }

    static void no(String call, boolean got) {
        is(call, got ? 1 : 0, 0);
    }

    static void throwsNone(String call, TurretViews x, int p, int what) {
        boolean thrown = false;
        try {
            x.person(p, what);
        } catch (NoSuchElementException e) {
            thrown = true;
        }
        yes(call + " throws NoSuchElementException", thrown);
    }

    /** Ends the test: exit code 1 if an answer was wrong. */
    static void end() {
        if (wrong != 0) {
            System.out.println(wrong + " answers are not as due");
            System.exit(1);
        }
    }

    /** The tape is just this text. */
    static void tape(TurretViews x, String text) {
        x.end(0);
        int[] five = new int[5];
        for (int from = 0; from < text.length(); from += 20) {
            for (int i = 0; i < 5; i++) {
                five[i] = 0;
                for (int j = 0; j < 4; j++) {
                    int at = from + 4 * i + j;
                    five[i] = five[i] << 8 | (at < text.length() ? text.charAt(at) : 0);
                }
            }
            x.feed(five[0], five[1], five[2], five[3], five[4]);
        }
        yes("end(" + text.length() + ")", x.end(text.length()));
    }

    static TurretViews of(String suburb) {
        TurretViews x = new TurretViews();
        tape(x, suburb);
        yes("suburb() of " + suburb, x.suburb() >= 0);
        return x;
    }

    static int suburb(TurretViews x, String text) {
        tape(x, text);
        return x.suburb();
    }

    static int book(TurretViews x, String text, int lives) {
        tape(x, text);
        return x.book(lives);
    }

    static int sentence(TurretViews x, String text) {
        tape(x, text);
        return x.sentence();
    }

    static int made(TurretViews x, int ahead, int behind) {
        tape(x, "" + (char) ahead + (char) behind);
        return x.made();
    }

    static void suburbFault(String text, int place, int kind) {
        TurretViews x = new TurretViews();
        is("suburb() of " + text, suburb(x, text), -1 - place);
        is("fault() of " + text, x.fault(), kind);
        is("tape behind " + text, x.count(2), 0);
    }

    static void bookFault(TurretViews x, String text, int place, int kind) {
        is("book() of " + text, book(x, text, 1), -2 - place);
        is("fault() of " + text, x.fault(), kind);
        is("tape behind " + text, x.count(2), 0);
    }

    static void sentenceFault(TurretViews x, String text, int place, int kind) {
        is("sentence() of " + text, sentence(x, text), -1 - place);
        is("fault() of " + text, x.fault(), kind);
        is("tape behind " + text, x.count(2), 0);
    }

    static String blanks(int many) {
        return " ".repeat(many);
    }

    static String cardOf(TurretViews x, int p) {
        int length = x.card(p);
        StringBuilder text = new StringBuilder();
        for (int i = 0; i < length; i++) {
            text.append((char) x.byteAt(i));
        }
        is("byteAt behind the card", x.byteAt(length), -1);
        return text.toString();
    }
}
