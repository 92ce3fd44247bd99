import java.lang.reflect.Constructor;
import java.lang.reflect.Field;
import java.lang.reflect.Method;
import java.lang.reflect.Modifier;
import java.util.Arrays;
import java.util.List;
import java.util.TreeSet;

/** The public face: just what the document names, and nothing of it hidden or doubled. */
final class FaceTest {
    private static final Check CHECK = new Check("FaceTest");
    private static final String FACE = """
            pass 1, person 5, about 2, put 2, move 2, harsh 2, roll 3, type 1, wipe 0, fault 0, right 2, law 2,
            why 2, form 2, read 4, formIs 2, answer 2, parted 2, asOf 1, rules 1, rule 2, unlike 1, proves 1,
            minutes 3, office 3, stand 2, leave 0, sees 2, begun 3, teach 1, ready 1, helpers 2, list 0, listIs 2,
            ripe 3, order 2, number 4, chosen 1, changed 1, wins 1, choice 3, drop 0, judge 2, best 1, sheet 3,
            lose 1, lay 4, get 3, copy 5, write 1, count 1, digest 0""";

    private FaceTest() {
    }

    public static void main(String[] args) {
        Class<FilledRoll> face = FilledRoll.class;
        CHECK.holds("public and final", Modifier.isPublic(face.getModifiers()) && Modifier.isFinal(face.getModifiers()));
        methods(face);
        constants(face);
        Constructor<?>[] makers = face.getDeclaredConstructors();
        CHECK.due("constructors", 1, makers.length);
        CHECK.holds("public, without arguments",
                Modifier.isPublic(makers[0].getModifiers()) && makers[0].getParameterCount() == 0);
        Class<?>[] inside = face.getDeclaredClasses();
        CHECK.holds("twelve classes at most", inside.length < 12);
        for (Class<?> one : inside) {
            CHECK.holds(one + " is static", Modifier.isStatic(one.getModifiers()));
            CHECK.holds(one + " is not public", !Modifier.isPublic(one.getModifiers()));
            fields(one);
            for (Method m : one.getDeclaredMethods()) {
                CHECK.holds(m + " bears a name of its own", !FACE.matches("(?s).*\\b" + m.getName() + " [0-9].*"));
            }
        }
        fields(face);
        CHECK.end();
    }

    private static void methods(Class<?> face) {
        TreeSet<String> want = new TreeSet<>(List.of(FACE.split(",\\s+")));
        TreeSet<String> open = new TreeSet<>();
        for (Method m : face.getDeclaredMethods()) {
            String name = m.getName() + " " + m.getParameterCount();
            if (Modifier.isPrivate(m.getModifiers())) {
                CHECK.holds(m + " bears a name of its own",
                        want.stream().noneMatch(w -> w.startsWith(m.getName() + " ")));
                continue;
            }
            open.add(name);
            CHECK.holds(m + " is public, of the object",
                    Modifier.isPublic(m.getModifiers()) && !Modifier.isStatic(m.getModifiers()));
            CHECK.holds(m + " answers as told", m.getReturnType() == (name.equals("digest 0") ? long.class : int.class));
            Class<?>[] kinds = m.getParameterTypes();
            for (int i = 0; i < kinds.length; i++) {
                boolean yesOrNo = name.equals("read 4") && i == 2 || name.equals("choice 3") && i == 0;
                CHECK.holds(m + ", argument " + i, kinds[i] == (yesOrNo ? boolean.class : int.class));
            }
        }
        CHECK.holds("the face's methods: " + open, open.equals(want));
    }

    private static void constants(Class<?> face) {
        TreeSet<String> open = new TreeSet<>();
        for (Field f : face.getDeclaredFields()) {
            if (!Modifier.isPrivate(f.getModifiers())) {
                open.add(f.getName());
                CHECK.holds(f + " is a constant",
                        f.toString().startsWith("public static final int "));
            }
        }
        CHECK.holds("the face's constants", open.equals(new TreeSet<>(List.of("NONE", "BAD", "NOT", "FULL"))));
        CHECK.due("NONE", -1, FilledRoll.NONE);
        CHECK.due("BAD", -2, FilledRoll.BAD);
        CHECK.due("NOT", -3, FilledRoll.NOT);
        CHECK.due("FULL", -4, FilledRoll.FULL);
    }

    private static void fields(Class<?> one) {
        List<Field> all = Arrays.asList(one.getDeclaredFields());
        CHECK.holds(one + ": static fields are final",
                all.stream().allMatch(f -> !Modifier.isStatic(f.getModifiers()) || Modifier.isFinal(f.getModifiers())));
        CHECK.holds(one + ": twenty fields at most",
                all.stream().filter(f -> !Modifier.isStatic(f.getModifiers())).count() <= 20);
    }
}
