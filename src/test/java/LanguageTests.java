import java.io.DataInputStream;
import java.io.IOException;
import java.io.InputStream;
import java.lang.reflect.Array;
import java.lang.reflect.Executable;
import java.lang.reflect.Field;
import java.lang.reflect.Modifier;
import java.util.ArrayList;
import java.util.Arrays;
import java.util.IdentityHashMap;
import java.util.List;
import java.util.Map;

/** Of LANGUAGE.md what can be seen in the compiled class, by its rules' numbers; the rest is for who reads it. */
public final class LanguageTests {
    /** Of the library that rule 4 tells only what the class uses: one more is put here when rule 4 has it. */
    private static final List<String> LIBRARY = Arrays.asList("java/lang/Object.<init>", "java/lang/String.length", "java/lang/String.charAt",
        "java/lang/Integer.bitCount", "java/lang/Math.max", "java/lang/Math.min", "java/lang/System.arraycopy", "java/util/Arrays.fill",
        "java/util/NoSuchElementException.<init>");
    private static final int MOST_CLASSES = 12;
    private static final int MOST_FIELDS = 20;
    private static final int MOST_PARAMETERS = 7;
    private static final int MOST_OBJECTS = 400;
    private static final int MOST_ELEMENTS = 12000;

    public static void main(String[] args) throws IOException, IllegalAccessException {
        List<Class<?>> all = new ArrayList<>(Arrays.asList(TurretViews.class.getDeclaredClasses()));
        all.add(TurretViews.class);
        Check.yes("rule 11: classes " + all.size(), all.size() <= MOST_CLASSES);
        for (Class<?> c : all) {
            nested(c);
            fields(c);
            parameters(c);
            library(c);
        }
        room();
        Check.end();
    }

    private static void nested(Class<?> c) {
        if (c != TurretViews.class) {
            int how = c.getModifiers();
            Check.yes("rule 1: " + c + " is static", Modifier.isStatic(how));
            Check.no("rule 1: " + c + " is public or protected", Modifier.isPublic(how) || Modifier.isProtected(how));
        }
    }

    private static void fields(Class<?> c) {
        int own = 0;
        for (Field f : c.getDeclaredFields()) {
            if (Modifier.isStatic(f.getModifiers())) {
                Check.yes("rule 5: " + f + " is final", Modifier.isFinal(f.getModifiers()));
                Check.yes("rule 5: " + f, Arrays.asList(int.class, long.class, boolean.class, char.class, String.class).contains(f.getType()));
            } else {
                own++;
            }
        }
        Check.yes("rule 11: " + c + " has fields " + own, own <= MOST_FIELDS);
    }

    private static void parameters(Class<?> c) {
        List<Executable> all = new ArrayList<>(Arrays.asList(c.getDeclaredMethods()));
        all.addAll(Arrays.asList(c.getDeclaredConstructors()));
        for (Executable e : all) {
            Check.yes("rule 11: " + e, e.getParameterCount() <= MOST_PARAMETERS);
        }
    }

    /** Rules 2 and 4: no lambda or joined text, and no call that is not told. */
    private static void library(Class<?> c) throws IOException {
        try (InputStream file = c.getResourceAsStream("/" + c.getName() + ".class"); DataInputStream in = new DataInputStream(file)) {
            in.readInt();
            in.readInt();
            int many = in.readUnsignedShort();
            String[] texts = new String[many];
            int[][] pairs = new int[many][];
            for (int i = 1; i < many; i++) {
                int tag = in.readUnsignedByte();
                Check.no("rule 2: a lambda or joined text in " + c, tag == 17 || tag == 18);
                if (tag == 1) {
                    texts[i] = in.readUTF();
                } else if (tag == 7 || tag == 8 || tag == 16 || tag == 19 || tag == 20) {
                    pairs[i] = new int[] {tag, in.readUnsignedShort(), 0};
                } else if (tag == 15) {
                    in.skipBytes(3);
                } else if (tag == 3 || tag == 4) {
                    in.readInt();
                } else if (tag == 5 || tag == 6) {
                    in.readLong();
                    i++;
                } else {
                    pairs[i] = new int[] {tag, in.readUnsignedShort(), in.readUnsignedShort()};
                }
            }
            for (int[] pair : pairs) {
                if (pair != null && (pair[0] == 10 || pair[0] == 11)) {
                    String owner = texts[pairs[pair[1]][1]];
                    String name = owner + "." + texts[pairs[pair[2]][1]];
                    Check.yes("rule 4: " + name, owner.startsWith("TurretViews") || LIBRARY.contains(name));
                }
            }
        }
    }

    /** All calls of a run live in one room: an object is counted with all that it holds. */
    private static void room() throws IllegalAccessException {
        Map<Object, Boolean> seen = new IdentityHashMap<>();
        long elements = weigh(new TurretViews(), seen);
        Check.yes("rule 12: objects of a new one " + seen.size(), seen.size() <= MOST_OBJECTS);
        Check.yes("rule 12: fields and elements of a new one " + elements, elements <= MOST_ELEMENTS);
    }

    private static long weigh(Object object, Map<Object, Boolean> seen) throws IllegalAccessException {
        if (object == null || seen.put(object, true) != null) {
            return 0;
        }
        long sum = 0;
        if (object.getClass().isArray()) {
            sum += Array.getLength(object);
            for (int i = 0; i < Array.getLength(object) && !object.getClass().getComponentType().isPrimitive(); i++) {
                sum += weigh(Array.get(object, i), seen);
            }
            return sum;
        }
        for (Field f : object.getClass().getDeclaredFields()) {
            if (!Modifier.isStatic(f.getModifiers())) {
                sum++;
                f.setAccessible(true);
                sum += f.getType().isPrimitive() ? 0 : weigh(f.get(object), seen);
            }
        }
        return sum;
    }
}
