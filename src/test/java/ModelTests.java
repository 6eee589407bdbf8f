import java.util.Arrays;
import java.util.NoSuchElementException;
import java.util.Random;

/** Promises 1 to 41: runs of calls at random, each answer against that of the Model. */
public final class ModelTests {
    private static final int RUNS = 1500;
    private static final int MOST_CALLS = 512;
    private static final int LONGEST_READ = 70;
    private static final int CALLS = 41;
    private static final String[] PIECES = ("turret person thinks wants vane slit bow round octagon duty sea thrift dogs love war "
        + "music tea climbs lands tells storm wall unwall day or and not up mild pleased has on views nerve climbed number "
        + "ta tb pa pb zz ; ; < = > ( ) . 0 1 60 61 100 999 1000 abcdefg abcdefgh A ta5 5ta").split(" ");

    private final Random random;
    private final TurretViews x = new TurretViews();
    private final Model m = new Model();
    private int calls = 0;

    private ModelTests(long seed) {
        random = new Random(seed);
    }

    public static void main(String[] args) {
        int runs = args.length > 0 ? Integer.parseInt(args[0]) : RUNS;
        for (int run = 0; run < runs; run++) {
            new ModelTests(run * 7919L + 17).go(run);
        }
        Check.end();
    }

    /** An object is promised to answer 512 calls: a run goes as far as that. */
    private void go(int run) {
        read(0, suburb());
        while (calls < MOST_CALLS - LONGEST_READ) {
            int sort = random.nextInt(24);
            if (sort == 0) {
                read(random.nextInt(4), random.nextInt(3) == 0 ? suburb() : book());
            } else if (sort < 3) {
                read(1 + random.nextInt(2), book());
            } else if (sort == 3) {
                read(3, sentence());
            } else {
                int which = random.nextInt(CALLS);
                String where = "run " + run + ", call " + calls;
                call(where, which, small(), small(), small());
                follow(where, which);
            }
        }
    }

    /** Calls that tell what the latest call of a sort found: the row behind it. */
    private void follow(String where, int which) {
        int[] askers = {19, 23, 24, 26, 28, 30};
        int[] tellers = {20, 21, 25, 27, 29, 32};
        for (int i = 0; i < askers.length; i++) {
            for (int k = 0; k < 7 && which == askers[i] && random.nextInt(3) > 0; k++) {
                call(where + " and " + k, tellers[i], k, 0, 0);
            }
        }
    }

    private int small() {
        switch (random.nextInt(14)) {
            case 0: return -1;
            case 1: return random.nextInt(70);
            case 2: return random.nextInt(300);
            case 3: return random.nextInt(20) == 0 ? random.nextInt() : 0;
            default: return random.nextInt(8);
        }
    }

    /** Puts a text on both tapes and has it read. */
    private void read(int sort, String text) {
        String bytes = text.length() > 940 ? text.substring(0, 940) : text;
        x.end(0);
        m.end(0);
        for (int from = 0; from < bytes.length(); from += 20) {
            int[] five = new int[5];
            for (int i = 0; i < 20; i++) {
                five[i / 4] = five[i / 4] << 8 | (from + i < bytes.length() ? bytes.charAt(from + i) : 0);
            }
            Check.is("feed", x.feed(five[0], five[1], five[2], five[3], five[4]), m.feed(five[0], five[1], five[2], five[3], five[4]));
        }
        Check.is("end", x.end(bytes.length()) ? 1 : 0, m.end(bytes.length()) ? 1 : 0);
        switch (sort) {
            case 0: Check.is("suburb() of " + bytes, x.suburb(), m.suburb()); break;
            case 1: Check.is("book(0) of " + bytes, x.book(0), m.book(0)); break;
            case 2: Check.is("book(1) of " + bytes, x.book(1), m.book(1)); break;
            default: Check.is("sentence() of " + bytes, x.sentence(), m.sentence()); break;
        }
        Check.is("fault() of " + bytes, x.fault(), m.fault());
        Check.is("tape behind " + bytes, x.count(2), m.count(2));
        for (int what = 0; what < 4; what++) {
            Check.is("told(" + what + ") behind " + bytes, x.told(what), m.told(what));
        }
        for (int k = -1; k < 6; k++) {
            Check.is("said(" + k + ") behind " + bytes, x.said(k), m.said(k));
        }
        // end, end, the read, fault, count, told, said; and the feeds
        calls += 5 + 4 + 7 + (bytes.length() + 19) / 20;
    }

    private String pick(String row) {
        String[] some = row.split(" ");
        return some[random.nextInt(some.length)];
    }

    private String view() {
        return Texts.VIEWS.get(random.nextInt(8));
    }

    private String turret(int many) {
        return "t" + (char) ('a' + random.nextInt(many));
    }

    private String person(int many) {
        return "p" + (char) ('a' + random.nextInt(many));
    }

    private String suburb() {
        StringBuilder text = new StringBuilder();
        int turrets = random.nextInt(20) == 0 ? 8 : random.nextInt(8);
        int persons = random.nextInt(20) == 0 ? 7 : random.nextInt(7);
        for (int t = 0; t < turrets; t++) {
            text.append("turret t").append((char) ('a' + t)).append(' ').append(pick("slit slit bow bow bow round octagon")).append(' ')
                .append(view()).append(' ').append(1 + random.nextInt(60)).append(random.nextBoolean() ? " vane;" : ";");
        }
        for (int p = 0; p < persons; p++) {
            text.append("person p").append((char) ('a' + p)).append(' ').append(random.nextInt(61)).append(random.nextBoolean() ? ";" : ";\n");
            for (int v = 0; v < 4; v++) {
                if (random.nextInt(3) == 0) {
                    text.append("thinks p").append((char) ('a' + p)).append(' ').append(Texts.VIEWS.get(v + 4 * random.nextInt(2))).append(';');
                }
                if (random.nextInt(3) == 0) {
                    text.append("wants p").append((char) ('a' + p)).append(' ').append(Texts.VIEWS.get(v + 4 * random.nextInt(2))).append(';');
                }
            }
        }
        if (random.nextInt(6) == 0) {
            text.append(pick("thinks wants")).append(' ').append(person(Math.max(persons, 1))).append(' ').append(view()).append(';');
        }
        return spoilt(text.toString(), 900);
    }

    private String book() {
        StringBuilder text = new StringBuilder();
        int persons = Math.max(m.count(1), 1);
        int turrets = Math.max(m.count(0), 1);
        int lines = random.nextInt(12) == 0 ? 38 + random.nextInt(4) : random.nextInt(6);
        for (int line = 0; line < lines; line++) {
            switch (lines > 20 ? 6 : lines == 5 ? 3 : random.nextInt(9)) {
                case 0: text.append("storm ").append(1 + random.nextInt(60)); break;
                case 1: text.append("wall ").append(turret(turrets)); break;
                case 2: text.append("unwall ").append(turret(turrets)); break;
                case 3: text.append("day ").append(random.nextBoolean() ? 60 : 1 + random.nextInt(60)); break;
                case 4: text.append(person(persons)).append(" lands"); break;
                case 5: text.append(person(persons)).append(" tells ").append(person(persons)).append(' ').append(view()); break;
                case 6: text.append("day 1"); break;
                default: text.append(person(persons)).append(" climbs ").append(turret(turrets)); break;
            }
            text.append(';');
        }
        return spoilt(text.toString(), 400);
    }

    private String sentence() {
        String text = cond(random.nextInt(11));
        return spoilt(text, 200);
    }

    private String cond(int depth) {
        StringBuilder text = new StringBuilder(one(depth));
        for (int i = random.nextInt(random.nextInt(8) == 0 ? 9 : 3); i > 0; i--) {
            text.append(random.nextBoolean() ? " or " : " and ").append(one(depth));
        }
        return text.toString();
    }

    private String one(int depth) {
        switch (depth > 4 ? random.nextInt(2) : depth > 0 ? random.nextInt(6) : 2 + random.nextInt(7)) {
            case 0: return "not " + one(depth - 1);
            case 1: return "(" + cond(depth - 1) + ")";
            case 2: return pick("up mild pleased");
            case 3: return "has " + view();
            case 4: return m.count(0) > 0 ? "on " + turret(m.count(0)) : "up";
            default: return pick("views nerve climbed number") + pick("< = >") + pick("0 1 2 3 20 40");
        }
    }

    /** Sometimes a piece more or fewer, another one, or blanks up to the most bytes. */
    private String spoilt(String text, int most) {
        StringBuilder spoilt = new StringBuilder(text);
        int sort = random.nextInt(12);
        int at = random.nextInt(text.length() + 1);
        if (sort == 0) {
            String blank = random.nextBoolean() ? "" : " ";
            spoilt.insert(at, blank + PIECES[random.nextInt(PIECES.length)] + blank);
        } else if (sort == 1) {
            spoilt.delete(at, Math.min(text.length(), at + 1 + random.nextInt(6)));
        } else if (sort == 2) {
            String[] words = text.split("(?<=[ ;])");
            words[random.nextInt(words.length)] = PIECES[random.nextInt(PIECES.length)] + " ";
            return String.join("", words);
        } else if (sort == 3) {
            char[] blanks = new char[Math.max(0, most - text.length() - 6 + random.nextInt(12))];
            Arrays.fill(blanks, random.nextBoolean() ? ' ' : '\n');
            int cut = text.lastIndexOf(' ', at) + 1;
            spoilt.insert(cut, new String(blanks));
        } else if (sort == 4 && !text.isEmpty()) {
            spoilt.setCharAt(Math.min(at, text.length() - 1), (char) random.nextInt(256));
        }
        return spoilt.toString();
    }

    private void call(String where, int which, int a, int b, int c) {
        calls += which == 23 ? 4 : 1;
        long due;
        long got;
        try {
            due = ofModel(which, a, b, c);
        } catch (NoSuchElementException e) {
            due = -77777;
        }
        try {
            got = ofClass(which, a, b, c);
        } catch (NoSuchElementException e) {
            got = -77777;
        }
        Check.is(where + ": call " + which + " of " + a + ", " + b + ", " + c, got, due);
    }

    private long ofClass(int which, int a, int b, int c) {
        switch (which) {
            case 0: return x.feed(a, b, c, a, b);
            case 1: return x.end(a) ? 1 : 0;
            case 2: return x.book(a == 0 ? 2 : a);
            case 3: return x.fault();
            case 4: return x.person(a, b);
            case 5: return x.turret(a, b);
            case 6: return x.looks(a, b);
            case 7: return x.now(a);
            case 8: return x.when(a, b);
            case 9: return x.climb(a, b);
            case 10: return x.land(a);
            case 11: return x.tell(a, b, c);
            case 12: return x.storm(a);
            case 13: return x.wall(a);
            case 14: return x.unwall(a);
            case 15: return x.days(a);
            case 16: return x.undo();
            case 17: return x.drawn(a, b);
            case 18: return x.behind(a, b);
            case 19: return x.soonest(a);
            case 20: return x.soonestAt(a);
            default: return ofClassToo(which, a, b, c);
        }
    }

    private long ofClassToo(int which, int a, int b, int c) {
        switch (which) {
            case 21: return x.madeAt(a);
            case 22: return x.ask();
            case 23: x.end(0); x.feed(a << 24 | b << 16, 0, 0, 0, 0); x.end(2); return x.made();
            case 24: return x.cover();
            case 25: return x.covering();
            case 26: return x.party();
            case 27: return x.partyOf(a);
            case 28: return x.tea();
            case 29: return x.teaOf(a);
            case 30: return x.card(a);
            case 31: return x.odds(a, b, c);
            case 32: return x.byteAt(a);
            case 33: return x.told(a);
            case 34: return x.image(a) ? 1 : 0;
            case 35: return x.restore(a) ? 1 : 0;
            case 36: return x.said(a);
            case 37: return x.made();
            case 38: return x.count(a);
            case 39: return x.climb(a, c);
            default: return x.days(60);
        }
    }

    private long ofModel(int which, int a, int b, int c) {
        switch (which) {
            case 0: return m.feed(a, b, c, a, b);
            case 1: return m.end(a) ? 1 : 0;
            case 2: return m.book(a == 0 ? 2 : a);
            case 3: return m.fault();
            case 4: return m.person(a, b);
            case 5: return m.turret(a, b);
            case 6: return m.looks(a, b);
            case 7: return m.now(a);
            case 8: return m.when(a, b);
            case 9: return m.climb(a, b);
            case 10: return m.land(a);
            case 11: return m.tell(a, b, c);
            case 12: return m.storm(a);
            case 13: return m.wall(a);
            case 14: return m.unwall(a);
            case 15: return m.days(a);
            case 16: return m.undo();
            case 17: return m.drawn(a, b);
            case 18: return m.behind(a, b);
            case 19: return m.soonest(a);
            case 20: return m.soonestAt(a);
            default: return ofModelToo(which, a, b, c);
        }
    }

    private long ofModelToo(int which, int a, int b, int c) {
        switch (which) {
            case 21: return m.madeAt(a);
            case 22: return m.ask();
            case 23: m.end(0); m.feed(a << 24 | b << 16, 0, 0, 0, 0); m.end(2); return m.made();
            case 24: return m.cover();
            case 25: return m.covering();
            case 26: return m.party();
            case 27: return m.partyOf(a);
            case 28: return m.tea();
            case 29: return m.teaOf(a);
            case 30: return m.card(a);
            case 31: return m.odds(a, b, c);
            case 32: return m.byteAt(a);
            case 33: return m.told(a);
            case 34: return m.image(a) ? 1 : 0;
            case 35: return m.restore(a) ? 1 : 0;
            case 36: return m.said(a);
            case 37: return m.made();
            case 38: return m.count(a);
            case 39: return m.climb(a, c);
            default: return m.days(60);
        }
    }
}
