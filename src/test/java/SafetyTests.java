import java.util.NoSuchElementException;
import java.util.Random;

/** Calls at random, with texts nearly sound: nothing is thrown but by person(), and two objects answer alike. */
public final class SafetyTests {
    private static final String[] PIECES = ("turret person thinks wants vane slit bow round octagon duty sea thrift dogs love war "
        + "music tea climbs lands tells storm wall unwall day or and not up mild pleased has on views nerve climbed number "
        + "ann bo ta tb ; ; ; ; < = > ( ) . 0 5 60 61 999 1000 abcdefg abcdefgh A").split(" ");
    private static final String[] SOUND = {
        StateTests.SUBURB, "turret ta bow sea 5 vane;person ann 9;person bo 9;thinks ann tea;wants bo sea;",
        "ann climbs ta;day 3;ann lands;ann tells bo sea;", "not(up or mild)and views=2 or on ta", "storm 5;wall ta;unwall ta;"};

    public static void main(String[] args) {
        for (int seed = 0; seed < 150; seed++) {
            long first = run(seed);
            Check.is("the same calls again", run(seed), first);
        }
        Check.end();
    }

    private static long run(int seed) {
        Random random = new Random(seed * 1000003L);
        TurretViews x = new TurretViews();
        long sum = 0;
        for (int call = 0; call < 512; call++) {
            long answer;
            try {
                answer = one(x, random, random.nextInt(44));
            } catch (NoSuchElementException e) {
                answer = -77;
            } catch (RuntimeException e) {
                answer = -99;
                Check.is("seed " + seed + ", call " + call + " threw " + e, 1, 0);
            }
            sum = sum * 31 + answer;
        }
        return sum;
    }

    private static String text(Random random) {
        StringBuilder text = new StringBuilder(random.nextInt(3) > 0 ? SOUND[random.nextInt(SOUND.length)] : "");
        for (int i = random.nextInt(4) == 0 ? random.nextInt(30) : 0; i > 0; i--) {
            text.append(PIECES[random.nextInt(PIECES.length)]).append(random.nextInt(5) == 0 ? "" : " ");
        }
        if (random.nextInt(10) == 0) {
            text.append(Check.blanks(random.nextInt(900)));
        }
        return text.length() > 940 ? text.substring(0, 940) : text.toString();
    }

    private static int any(Random random) {
        switch (random.nextInt(12)) {
            case 0: return random.nextInt();
            case 1: return -1;
            case 2: return random.nextInt(70);
            case 3: return Integer.MIN_VALUE;
            case 4: return Integer.MAX_VALUE;
            default: return random.nextInt(8);
        }
    }

    private static long one(TurretViews x, Random random, int which) {
        int a = any(random);
        int b = any(random);
        int c = any(random);
        switch (which) {
            case 0: return x.feed(random.nextInt(), a, b, c, random.nextInt());
            case 1: return x.end(a) ? 1 : 0;
            case 2: return x.suburb();
            case 3: return x.fault();
            case 4: return x.person(a, b);
            case 5: return x.turret(a, b);
            case 6: return x.looks(a, b);
            case 7: return x.now(a);
            case 8: return x.climb(a, b);
            case 9: return x.land(a);
            case 10: return x.tell(a, b, c);
            case 11: return x.storm(a);
            case 12: return x.wall(a);
            case 13: return x.unwall(a);
            case 14: return x.days(a);
            case 15: return x.undo();
            case 16: return x.behind(a, b);
            case 17: return x.soonest(a);
            case 18: return x.soonestAt(a);
            case 19: return x.made();
            case 20: return x.madeAt(a);
            default: return another(x, random, which, a, b, c);
        }
    }

    private static long another(TurretViews x, Random random, int which, int a, int b, int c) {
        switch (which) {
            case 21: return x.ask();
            case 22: return x.cover();
            case 23: return x.covering();
            case 24: return x.party();
            case 25: return x.partyOf(a);
            case 26: return x.tea();
            case 27: return x.teaOf(a);
            case 28: return x.when(a, b);
            case 29: return x.card(a);
            case 30: return x.byteAt(a);
            case 31: return x.drawn(a, b);
            case 32: return x.odds(a, b, c);
            case 33: return x.book(a);
            case 34: return x.told(a);
            case 35: return x.sentence();
            case 36: return x.said(a);
            case 37: return x.image(a) ? 1 : 0;
            case 38: return x.restore(a) ? 1 : 0;
            case 39: return x.count(a);
            case 40: return Check.suburb(x, text(random));
            case 41: return Check.book(x, text(random), random.nextInt(2));
            case 42: return Check.sentence(x, text(random));
            default: return Check.made(x, random.nextInt(256), random.nextInt(256));
        }
    }
}
