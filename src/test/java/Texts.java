import java.util.ArrayList;
import java.util.Arrays;
import java.util.HashSet;
import java.util.List;
import java.util.Set;
import java.util.regex.Matcher;
import java.util.regex.Pattern;

/** Texts read the plainest way, one TOKEN behind the other, for Model: a FAULT is thrown where it is met. */
final class Texts {
    /** A FAULT: where, and of which kind. */
    static final class Fault extends RuntimeException {
        private static final long serialVersionUID = 1;
        final int place;
        final int kind;

        Fault(int place, int kind) {
            super("fault " + kind + " at " + place);
            this.place = place;
            this.kind = kind;
        }
    }

    static final List<String> VIEWS = Arrays.asList("duty", "sea", "thrift", "dogs", "love", "war", "music", "tea");
    static final List<String> SHAPES = Arrays.asList("slit", "bow", "round", "octagon");
    private static final Set<String> TOLD_WORDS = new HashSet<>(Arrays.asList(("turret vane person thinks wants climbs lands tells "
        + "storm wall unwall day or and not up mild pleased has on views nerve climbed number slit bow round octagon duty sea "
        + "thrift dogs love war music tea").split(" ")));
    private static final Pattern PIECE = Pattern.compile("[a-z0-9]+|[^ \n]", Pattern.DOTALL);

    private final List<String> pieces = new ArrayList<>();
    private final List<Integer> places = new ArrayList<>();
    private int at = 0;

    Texts(String text, int most) {
        Matcher m = PIECE.matcher(text);
        while (m.find()) {
            if (m.start() < most) {
                pieces.add(m.group());
                places.add(m.start());
            }
        }
        if (text.length() <= most) {
            pieces.add("the end");
            places.add(text.length());
        } else {
            pieces.add("too long");
            places.add(most);
        }
    }

    Fault fault(int kind) {
        return new Fault(places.get(at), kind);
    }

    String see() {
        return pieces.get(at);
    }

    boolean sees(String... some) {
        return Arrays.asList(some).contains(see());
    }

    boolean isOver() {
        return sees("the end");
    }

    /** One of these, or a FAULT. */
    String take(List<String> some) {
        if (!some.contains(see())) {
            throw fault(1);
        }
        at++;
        return pieces.get(at - 1);
    }

    String take(String... some) {
        return take(Arrays.asList(some));
    }

    boolean seesName() {
        return see().matches("[a-z]{1,7}") && !TOLD_WORDS.contains(see());
    }

    String takeName() {
        if (!seesName()) {
            throw fault(1);
        }
        at++;
        return pieces.get(at - 1);
    }

    String takeNewName(List<String> one, List<String> another) {
        if (one.contains(see()) || another.contains(see())) {
            throw fault(3);
        }
        return takeName();
    }

    int takeOf(List<String> names) {
        if (seesName() && !names.contains(see())) {
            throw fault(3);
        }
        return names.indexOf(takeName());
    }

    int takeNumber(int least, int greatest) {
        if (!see().matches("[0-9]{1,3}")) {
            throw fault(1);
        }
        int number = Integer.parseInt(see());
        if (number < least || number > greatest) {
            throw fault(2);
        }
        at++;
        return number;
    }
}
