import java.util.ArrayDeque;
import java.util.ArrayList;
import java.util.Arrays;
import java.util.Collections;
import java.util.Deque;
import java.util.List;
import java.util.NoSuchElementException;
import java.util.function.IntPredicate;

/** The document once more, in the plainest form and with the whole Java library: what TurretViews should answer. */
final class Model {
    private static final int NONE = -1;

    private static final class Turret {
        String name;
        String shape;
        int view;
        int high;
        boolean vane;
        boolean walled;

        Turret copy() {
            Turret t = new Turret();
            t.name = name;
            t.shape = shape;
            t.view = view;
            t.high = high;
            t.vane = vane;
            t.walled = walled;
            return t;
        }

        List<Integer> looks() {
            List<Integer> row = new ArrayList<>();
            row.add(view);
            if (shape.equals("bow")) {
                row.add((view + 7) % 8);
                row.add((view + 1) % 8);
            }
            for (int k = 1; k < 8 && (shape.equals("round") || shape.equals("octagon")); k++) {
                row.add((shape.equals("round") ? view + k : view + 8 - k) % 8);
            }
            return row;
        }
    }

    private static final class Person {
        String name;
        int nerve;
        int climbed;
        Turret up;
        boolean[] has = new boolean[8];
        boolean[] wants = new boolean[8];

        void have(int view) {
            has[view] = true;
            has[(view + 4) % 8] = false;
        }

        boolean pleased() {
            for (int v = 0; v < 8; v++) {
                if (wants[v] && !has[v]) {
                    return false;
                }
            }
            return true;
        }

        int many() {
            return Integer.bitCount(bits(has));
        }
    }

    private static final class State {
        List<Turret> turrets = new ArrayList<>();
        List<Person> persons = new ArrayList<>();
        int day;

        State copy() {
            State s = new State();
            for (Turret t : turrets) {
                s.turrets.add(t.copy());
            }
            for (Person p : persons) {
                Person q = new Person();
                q.name = p.name;
                q.nerve = p.nerve;
                q.climbed = p.climbed;
                q.up = p.up == null ? null : s.turrets.get(turrets.indexOf(p.up));
                q.has = p.has.clone();
                q.wants = p.wants.clone();
                s.persons.add(q);
            }
            s.day = day;
            return s;
        }

        List<String> turretNames() {
            List<String> names = new ArrayList<>();
            for (Turret t : turrets) {
                names.add(t.name);
            }
            return names;
        }

        List<String> personNames() {
            List<String> names = new ArrayList<>();
            for (Person p : persons) {
                names.add(p.name);
            }
            return names;
        }

        int who(Turret t) {
            for (int p = 0; p < persons.size(); p++) {
                if (persons.get(p).up == t) {
                    return p;
                }
            }
            return NONE;
        }

        boolean can(int p, int t) {
            Turret turret = turrets.get(t);
            int who = who(turret);
            return !turret.walled && turret.high <= persons.get(p).nerve && (who == NONE || who == p);
        }

        int climb(int p, int t) {
            Person person = persons.get(p);
            Turret turret = turrets.get(t);
            if (person.up != null) {
                return 1;
            } else if (who(turret) != NONE) {
                return 2;
            } else if (turret.walled) {
                return 3;
            } else if (turret.high > person.nerve) {
                return 4;
            }
            person.up = turret;
            person.climbed++;
            for (int view : turret.looks()) {
                person.have(view);
            }
            return 0;
        }

        int land(int p) {
            if (persons.get(p).up == null) {
                return 1;
            }
            persons.get(p).up = null;
            return 0;
        }

        int tell(int p, int q, int view) {
            Person one = persons.get(p);
            Person other = persons.get(q);
            if (one == other || one.up != null || other.up != null) {
                return 1;
            } else if (!one.has[view]) {
                return 2;
            } else if (other.has[view]) {
                return 3;
            }
            other.have(view);
            return 0;
        }

        int storm(int n) {
            boolean some = false;
            for (Turret t : turrets) {
                some |= t.high > n;
                t.high = Math.min(t.high, n);
            }
            return some ? 0 : 1;
        }

        int wall(int t) {
            if (turrets.get(t).walled) {
                return 1;
            } else if (who(turrets.get(t)) != NONE) {
                return 2;
            }
            turrets.get(t).walled = true;
            return 0;
        }

        int unwall(int t) {
            if (!turrets.get(t).walled) {
                return 1;
            }
            turrets.get(t).walled = false;
            return 0;
        }

        void nextDay() {
            for (Turret t : turrets) {
                t.view = t.vane ? (t.view + 1) % 8 : t.view;
            }
            day++;
        }

        int days(int n) {
            int gone = 0;
            while (gone < n && day < 400) {
                nextDay();
                gone++;
            }
            return gone;
        }

        int drawn(int n, int seed) {
            int[] x = {seed};
            int gone = 0;
            while (gone < n && day < 400) {
                if (draw(x, 12) == 0) {
                    storm(draw(x, 60) + 1);
                }
                for (int p = 0; p < persons.size(); p++) {
                    int sort = draw(x, 4);
                    if (sort <= 1 && !turrets.isEmpty()) {
                        climb(p, draw(x, turrets.size()));
                    } else if (sort == 2) {
                        land(p);
                    } else if (sort == 3) {
                        int q = draw(x, persons.size());
                        tell(p, q, draw(x, 8));
                    }
                }
                nextDay();
                gone++;
            }
            return gone;
        }

        private static int draw(int[] x, int n) {
            x[0] = x[0] * 1103515245 + 12345;
            return (x[0] >>> 8) % n;
        }

        int pleased() {
            int bits = 0;
            for (int p = 0; p < persons.size(); p++) {
                bits |= persons.get(p).pleased() ? 1 << p : 0;
            }
            return bits;
        }
    }

    /** Of a PERSON of a State, by his number. */
    private interface Cond {
        boolean of(State s, int p);
    }

    private interface Line {
        int live(State s);
    }

    private final StringBuilder tape = new StringBuilder();
    private State state = new State();
    private Cond sentence = null;
    private final Deque<State> undone = new ArrayDeque<>();
    private final State[] keptStates = new State[2];
    private final Cond[] keptSentences = new Cond[2];
    private int fault = 0;
    private List<Integer> soonest = Collections.emptyList();
    private List<Integer> made = Collections.emptyList();
    private List<Integer> party = Collections.emptyList();
    private List<Integer> tea = Collections.emptyList();
    private int covering = NONE;
    private String card = "";
    private int[] told = {NONE, NONE, NONE, NONE};

    static int bits(boolean[] some) {
        int bits = 0;
        for (int i = 0; i < some.length; i++) {
            bits |= some[i] ? 1 << i : 0;
        }
        return bits;
    }

    private static int at(List<Integer> row, int k) {
        return k >= 0 && k < row.size() ? row.get(k) : NONE;
    }

    private boolean isPerson(int p) {
        return p >= 0 && p < state.persons.size();
    }

    private boolean isTurret(int t) {
        return t >= 0 && t < state.turrets.size();
    }

    private static boolean isView(int v) {
        return v >= 0 && v <= 7;
    }

    private int bitsOfPersons(IntPredicate is) {
        int bits = 0;
        for (int p = 0; p < state.persons.size(); p++) {
            bits |= is.test(p) ? 1 << p : 0;
        }
        return bits;
    }

    private int bitsOfTurrets(IntPredicate is) {
        int bits = 0;
        for (int t = 0; t < state.turrets.size(); t++) {
            bits |= is.test(t) ? 1 << t : 0;
        }
        return bits;
    }

    int feed(int a, int b, int c, int d, int e) {
        if (tape.length() > 920) {
            return NONE;
        }
        for (int number : new int[] {a, b, c, d, e}) {
            tape.append((char) (number >>> 24)).append((char) (number >> 16 & 255)).append((char) (number >> 8 & 255))
                .append((char) (number & 255));
        }
        return tape.length();
    }

    boolean end(int n) {
        if (n < 0 || n > tape.length()) {
            return false;
        }
        tape.setLength(n);
        return true;
    }

    private String takeTape() {
        String text = tape.toString();
        tape.setLength(0);
        return text;
    }

    int suburb() {
        State fresh = new State();
        int lines = 0;
        Texts text = new Texts(takeTape(), 900);
        try {
            for (; !text.isOver(); lines++) {
                readLine(text, fresh);
                text.take(";");
            }
        } catch (Texts.Fault f) {
            fault = f.kind;
            return -1 - f.place;
        }
        fault = 0;
        state = fresh;
        sentence = null;
        undone.clear();
        return lines;
    }

    private static void readLine(Texts text, State s) {
        List<String> turretNames = s.turretNames();
        List<String> personNames = s.personNames();
        if (text.sees("turret") && turretNames.size() == 7 || text.sees("person") && personNames.size() == 6) {
            throw text.fault(4);
        }
        String sort = text.take("turret", "person", "thinks", "wants");
        if (sort.equals("turret")) {
            Turret t = new Turret();
            t.name = text.takeNewName(turretNames, personNames);
            t.shape = text.take(Texts.SHAPES);
            t.view = Texts.VIEWS.indexOf(text.take(Texts.VIEWS));
            t.high = text.takeNumber(1, 60);
            t.vane = text.sees("vane");
            if (t.vane) {
                text.take("vane");
            }
            s.turrets.add(t);
        } else if (sort.equals("person")) {
            Person p = new Person();
            p.name = text.takeNewName(turretNames, personNames);
            p.nerve = text.takeNumber(0, 60);
            s.persons.add(p);
        } else {
            Person p = s.persons.get(text.takeOf(personNames));
            boolean[] views = sort.equals("thinks") ? p.has : p.wants;
            int view = Texts.VIEWS.indexOf(text.see());
            if (view >= 0 && (views[view] || views[(view + 4) % 8])) {
                throw text.fault(3);
            }
            text.take(Texts.VIEWS);
            views[view] = true;
        }
    }

    int fault() {
        return fault;
    }

    int person(int p, int what) {
        if (!isPerson(p) || what < 0 || what > 6) {
            throw new NoSuchElementException();
        }
        Person person = state.persons.get(p);
        int[] all = {bits(person.has), bits(person.wants), person.nerve, state.turrets.indexOf(person.up), person.climbed,
            bitsOfTurrets(t -> state.can(p, t)), bitsOfPersons(q -> friends(p, q))};
        return all[what];
    }

    private boolean friends(int p, int q) {
        boolean[] one = state.persons.get(p).has;
        boolean[] other = state.persons.get(q).has;
        boolean some = false;
        for (int v = 0; v < 8; v++) {
            if (one[v] && other[(v + 4) % 8]) {
                return false;
            }
            some |= one[v] && other[v];
        }
        return some && p != q;
    }

    int turret(int t, int what) {
        if (!isTurret(t) || what < 0 || what > 6) {
            return NONE;
        }
        Turret turret = state.turrets.get(t);
        int looked = 0;
        for (int v : turret.looks()) {
            looked |= 1 << v;
        }
        int[] all = {Texts.SHAPES.indexOf(turret.shape), turret.view, turret.high, turret.vane ? 1 : 0, turret.walled ? 1 : 0,
            state.who(turret), looked};
        return all[what];
    }

    int looks(int t, int k) {
        return isTurret(t) ? at(state.turrets.get(t).looks(), k) : NONE;
    }

    int now(int what) {
        int climbs = 0;
        int views = 0;
        for (Person p : state.persons) {
            climbs += p.climbed;
            views += p.many();
        }
        List<Person> all = state.persons;
        return at(Arrays.asList(state.day, bitsOfPersons(p -> all.get(p).up != null), bitsOfPersons(p -> all.get(p).many() == 0),
            state.pleased(), bitsOfTurrets(t -> state.turrets.get(t).walled), climbs, views), what);
    }

    /** An act on the state; what was so is kept if it was done. */
    private int act(Line act, boolean zeroIsDone) {
        State ahead = state.copy();
        int answer = act.live(state);
        if (zeroIsDone == (answer == 0)) {
            keep(ahead);
        }
        return answer;
    }

    private void keep(State ahead) {
        undone.addLast(ahead);
        if (undone.size() > 8) {
            undone.removeFirst();
        }
    }

    int climb(int p, int t) {
        return isPerson(p) && isTurret(t) ? act(s -> s.climb(p, t), true) : NONE;
    }

    int land(int p) {
        return isPerson(p) ? act(s -> s.land(p), true) : NONE;
    }

    int tell(int p, int q, int view) {
        return isPerson(p) && isPerson(q) && isView(view) ? act(s -> s.tell(p, q, view), true) : NONE;
    }

    int storm(int n) {
        return n >= 1 && n <= 60 ? act(s -> s.storm(n), true) : NONE;
    }

    int wall(int t) {
        return isTurret(t) ? act(s -> s.wall(t), true) : NONE;
    }

    int unwall(int t) {
        return isTurret(t) ? act(s -> s.unwall(t), true) : NONE;
    }

    int days(int n) {
        return n >= 1 && n <= 60 ? act(s -> s.days(n), false) : NONE;
    }

    int undo() {
        if (undone.isEmpty()) {
            return NONE;
        }
        state = undone.removeLast();
        return undone.size();
    }

    private int after(int views, int t) {
        Person p = new Person();
        for (int v = 0; v < 8; v++) {
            p.has[v] = (views >> v & 1) == 1;
        }
        for (int v : state.turrets.get(t).looks()) {
            p.have(v);
        }
        return bits(p.has);
    }

    int behind(int views, int t) {
        return views >= 0 && views <= 255 && isTurret(t) ? after(views, t) : NONE;
    }

    int soonest(int p) {
        if (!isPerson(p)) {
            return NONE;
        }
        int wants = bits(state.persons.get(p).wants);
        // a TURRET need be climbed once at most: its latest climb settles all at which it looks
        for (int length = 0; length <= state.turrets.size(); length++) {
            List<Integer> row = new ArrayList<>();
            if (findRow(p, bits(state.persons.get(p).has), wants, length, row)) {
                soonest = row;
                return length;
            }
        }
        return NONE;
    }

    private boolean findRow(int p, int views, int wants, int length, List<Integer> row) {
        if (length == 0) {
            return (views & wants) == wants;
        }
        for (int t = 0; t < state.turrets.size(); t++) {
            if (state.can(p, t) && !row.contains(t)) {
                row.add(t);
                if (findRow(p, after(views, t), wants, length - 1, row)) {
                    return true;
                }
                row.remove(row.size() - 1);
            }
        }
        return false;
    }

    int soonestAt(int k) {
        return at(soonest, k);
    }

    int made() {
        String text = takeTape();
        if (text.length() != 2) {
            return NONE;
        }
        List<List<Integer>> rows = new ArrayList<>();
        for (int length = 1; length <= 3; length++) {
            addMade(rows, new ArrayList<>(), text.charAt(0), text.charAt(1), length);
        }
        made = rows.isEmpty() ? made : rows.get(0);
        return rows.size();
    }

    private void addMade(List<List<Integer>> rows, List<Integer> row, int views, int behind, int length) {
        if (length == 0) {
            if (views == behind) {
                rows.add(new ArrayList<>(row));
            }
            return;
        }
        for (int t = 0; t < state.turrets.size(); t++) {
            row.add(t);
            addMade(rows, row, after(views, t), behind, length - 1);
            row.remove(row.size() - 1);
        }
    }

    int madeAt(int k) {
        return at(made, k);
    }

    int ask() {
        int best = NONE;
        int least = Integer.MAX_VALUE;
        for (int v = 7; v >= 0 && !state.persons.isEmpty(); v--) {
            int view = v;
            int yes = Integer.bitCount(bitsOfPersons(p -> state.persons.get(p).has[view]));
            int most = Math.max(yes, state.persons.size() - yes);
            if (most <= least) {
                least = most;
                best = v;
            }
        }
        return best;
    }

    int cover() {
        for (int many = 0; many <= state.turrets.size(); many++) {
            for (int set = 0; set < 1 << state.turrets.size(); set++) {
                if (Integer.bitCount(set) == many && covers(set)) {
                    covering = set;
                    return many;
                }
            }
        }
        return NONE;
    }

    private boolean covers(int set) {
        int seen = 0;
        for (int t = 0; t < state.turrets.size(); t++) {
            if ((set >> t & 1) == 1) {
                if (state.turrets.get(t).walled) {
                    return false;
                }
                seen |= turret(t, 6);
            }
        }
        return seen == 255;
    }

    int covering() {
        return covering;
    }

    private int most;

    int party() {
        most = -1;
        tryParty(new ArrayList<>(), 0);
        return most;
    }

    /** Rows come in their order, so that the first of the best is the one. */
    private void tryParty(List<Integer> row, int pleased) {
        int p = row.size();
        if (p == state.persons.size()) {
            if (pleased > most) {
                most = pleased;
                party = new ArrayList<>(row);
            }
            return;
        }
        int has = bits(state.persons.get(p).has);
        int wants = bits(state.persons.get(p).wants);
        for (int t = 0; t <= state.turrets.size(); t++) {
            boolean none = t == state.turrets.size();
            if (none || state.can(p, t) && !row.contains(t)) {
                int then = none ? has : after(has, t);
                row.add(none ? NONE : t);
                tryParty(row, pleased + ((then & wants) == wants ? 1 : 0));
                row.remove(p);
            }
        }
    }

    int partyOf(int p) {
        return at(party, p);
    }

    int tea() {
        State s = state.copy();
        int rounds = 0;
        boolean changes = true;
        while (changes && rounds < 10) {
            rounds++;
            changes = false;
            for (Person p : s.persons) {
                int had = bits(p.has);
                for (int v = 0; v < 4 && p.up == null; v++) {
                    int forIt = 0;
                    int against = 0;
                    for (Person q : s.persons) {
                        forIt += q != p && q.up == null && q.has[v] ? 1 : 0;
                        against += q != p && q.up == null && q.has[v + 4] ? 1 : 0;
                    }
                    if (forIt != against) {
                        p.have(forIt > against ? v : v + 4);
                    }
                }
                changes |= had != bits(p.has);
            }
        }
        tea = new ArrayList<>();
        for (Person p : s.persons) {
            tea.add(bits(p.has));
        }
        return rounds;
    }

    int teaOf(int p) {
        return at(tea, p);
    }

    int when(int t, int view) {
        if (!isTurret(t) || !isView(view)) {
            return NONE;
        }
        State s = state.copy();
        for (int day = 0; day < 8; day++) {
            if (s.turrets.get(t).view == view) {
                return day;
            }
            s.nextDay();
        }
        return NONE;
    }

    int card(int p) {
        if (!isPerson(p)) {
            return NONE;
        }
        Person person = state.persons.get(p);
        card = person.name + (person.up == null ? "" : " on " + person.up.name) + " thinks" + (person.many() == 0 ? " nothing" : "");
        for (int v = 0; v < 8; v++) {
            card += person.has[v] ? " " + Texts.VIEWS.get(v) : "";
        }
        return card.length();
    }

    int byteAt(int i) {
        return i >= 0 && i < card.length() ? card.charAt(i) : NONE;
    }

    int drawn(int n, int seed) {
        return n >= 1 && n <= 60 ? act(s -> s.drawn(n, seed), false) : NONE;
    }

    int odds(int p, int n, int seed) {
        if (!isPerson(p) || n < 1 || n > 30) {
            return NONE;
        }
        int many = 0;
        for (int i = 0; i < n; i++) {
            State s = state.copy();
            s.drawn(20, seed + i);
            many += s.persons.get(p).pleased() ? 1 : 0;
        }
        return many;
    }

    int book(int lives) {
        if (lives != 0 && lives != 1) {
            return -1000;
        }
        List<Line> lines = new ArrayList<>();
        try {
            Texts text = new Texts(takeTape(), 400);
            while (!text.isOver()) {
                lines.add(readBookLine(text, lines.size()));
                text.take(";");
            }
        } catch (Texts.Fault f) {
            fault = f.kind;
            return -2 - f.place;
        }
        fault = 0;
        State ahead = state.copy();
        State s = lives == 1 ? state : state.copy();
        int line = 0;
        int why = 0;
        while (line < lines.size() && why == 0) {
            why = lines.get(line).live(s);
            line += why == 0 ? 1 : 0;
        }
        if (lives == 1 && line > 0) {
            keep(ahead);
        }
        told = new int[] {why, line, s.day, s.pleased()};
        return why == 0 ? NONE : line;
    }

    private static int why(int sort, int why) {
        return why == 0 ? 0 : sort + why;
    }

    private Line readBookLine(Texts text, int ahead) {
        List<String> persons = state.personNames();
        List<String> turrets = state.turretNames();
        boolean plain = text.sees("storm", "wall", "unwall", "day");
        if (text.seesName() && !persons.contains(text.see())) {
            throw text.fault(3);
        }
        if (ahead == 40 && (plain || text.seesName())) {
            throw text.fault(4);
        }
        if (plain) {
            String act = text.take("storm", "wall", "unwall", "day");
            int n = act.endsWith("wall") ? text.takeOf(turrets) : text.takeNumber(1, 60);
            switch (act) {
                case "storm": return s -> why(30, s.storm(n));
                case "wall": return s -> why(40, s.wall(n));
                case "unwall": return s -> why(50, s.unwall(n));
                default: return s -> s.day + n > 400 ? 61 : s.days(n) - n;
            }
        }
        int p = text.takeOf(persons);
        String act = text.take("climbs", "lands", "tells");
        if (act.equals("lands")) {
            return s -> why(10, s.land(p));
        }
        int other = text.takeOf(act.equals("climbs") ? turrets : persons);
        if (act.equals("climbs")) {
            return s -> s.climb(p, other);
        }
        int view = Texts.VIEWS.indexOf(text.take(Texts.VIEWS));
        return s -> why(20, s.tell(p, other, view));
    }

    int told(int what) {
        return what >= 0 && what < 4 ? told[what] : NONE;
    }

    private int ones;

    int sentence() {
        ones = 0;
        Cond cond;
        try {
            Texts text = new Texts(takeTape(), 200);
            cond = readCond(text, 1);
            text.take("the end");
        } catch (Texts.Fault f) {
            fault = f.kind;
            return -1 - f.place;
        }
        fault = 0;
        sentence = cond;
        return ones;
    }

    private Cond readCond(Texts text, int depth) {
        Cond cond = readAll(text, depth);
        while (text.sees("or")) {
            text.take("or");
            Cond one = cond;
            Cond other = readAll(text, depth);
            cond = (s, p) -> one.of(s, p) || other.of(s, p);
        }
        return cond;
    }

    private Cond readAll(Texts text, int depth) {
        Cond cond = readOne(text, depth);
        while (text.sees("and")) {
            text.take("and");
            Cond one = cond;
            Cond other = readOne(text, depth);
            cond = (s, p) -> one.of(s, p) && other.of(s, p);
        }
        return cond;
    }

    private Cond readOne(Texts text, int depth) {
        String[] firsts = {"not", "(", "up", "mild", "pleased", "has", "on", "views", "nerve", "climbed", "number"};
        if (text.sees(firsts) && (ones == 20 || depth == 9)) {
            throw text.fault(4);
        }
        String first = text.take(firsts);
        ones++;
        switch (first) {
            case "not": {
                Cond one = readOne(text, depth + 1);
                return (s, p) -> !one.of(s, p);
            }
            case "(": {
                Cond cond = readCond(text, depth + 1);
                text.take(")");
                return cond;
            }
            case "up": return (s, p) -> s.persons.get(p).up != null;
            case "mild": return (s, p) -> s.persons.get(p).many() == 0;
            case "pleased": return (s, p) -> s.persons.get(p).pleased();
            case "has": {
                int view = Texts.VIEWS.indexOf(text.take(Texts.VIEWS));
                return (s, p) -> s.persons.get(p).has[view];
            }
            case "on": {
                int t = text.takeOf(state.turretNames());
                return (s, p) -> s.persons.get(p).up == s.turrets.get(t);
            }
            default: return readNumberOne(text, first);
        }
    }

    private static Cond readNumberOne(Texts text, String first) {
        String sign = text.take("<", "=", ">");
        int number = text.takeNumber(0, 999);
        return (s, p) -> {
            Person person = s.persons.get(p);
            int is = first.equals("views") ? person.many() : first.equals("nerve") ? person.nerve
                : first.equals("climbed") ? person.climbed : p;
            return sign.equals("<") ? is < number : sign.equals("=") ? is == number : is > number;
        };
    }

    int said(int k) {
        List<Integer> row = new ArrayList<>();
        for (int p = 0; p < state.persons.size() && sentence != null; p++) {
            if (sentence.of(state, p)) {
                row.add(p);
            }
        }
        return k == NONE && sentence != null ? row.size() : at(row, k);
    }

    boolean image(int k) {
        if (k != 0 && k != 1) {
            return false;
        }
        keptStates[k] = state.copy();
        keptSentences[k] = sentence;
        return true;
    }

    boolean restore(int k) {
        if (k != 0 && k != 1 || keptStates[k] == null) {
            return false;
        }
        state = keptStates[k].copy();
        sentence = keptSentences[k];
        undone.clear();
        return true;
    }

    int count(int what) {
        return at(Arrays.asList(state.turrets.size(), state.persons.size(), tape.length()), what);
    }
}
