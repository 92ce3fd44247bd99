import java.lang.reflect.InvocationTargetException;
import java.lang.reflect.Method;
import java.util.Arrays;
import java.util.Comparator;
import java.util.Random;

/** Any call with any numbers on any object answers: empty ones, full ones, far more than 512 calls. */
final class NeverThrowsTest {
    private static final int[] ODD = {Integer.MIN_VALUE, Integer.MIN_VALUE + 1, -100, -4, -3, -2, -1, 0, 1, 2, 3, 4, 5,
        6, 7, 8, 9, 10, 11, 12, 13, 19, 20, 21, 23, 24, 29, 30, 31, 39, 40, 41, 47, 48, 59, 60, 61, 99, 100, 101, 120,
        127, 128, 199, 200, 255, 256, 399, 400, 1000, 1001, 1439, 1440, 65536, Integer.MAX_VALUE - 1, Integer.MAX_VALUE};
    private static final Check CHECK = new Check("NeverThrowsTest");

    private NeverThrowsTest() {
    }

    public static void main(String[] args) throws IllegalAccessException {
        Method[] all = FilledRoll.class.getDeclaredMethods();
        Method[] face = Arrays.stream(all).filter(m -> (m.getModifiers() & 1) != 0)
                .sorted(Comparator.comparing(Method::getName)).toArray(Method[]::new);
        CHECK.due("methods", 52, face.length);
        for (int seed = 0; seed < 60; seed++) {
            Random random = new Random(seed);
            FilledRoll x = new FilledRoll();
            if (seed % 3 > 0) {
                fill(x, seed % 3 == 2);
            }
            for (int call = 0; call < 3000; call++) {
                answers(x, face[random.nextInt(face.length)], random);
            }
        }
        CHECK.end();
    }

    private static void fill(FilledRoll x, boolean full) {
        Check.laws(x, "n=0;q0=0;q1=1;q2=2@9;s=3;w=2");
        for (int i = 0; i < (full ? 48 : 20); i++) {
            x.person(i % 6, i / 6 % 2, i % 20, i % 10, i - 1);
            x.harsh(i, i % 9);
            x.stand(i, 37 * i % 1440);
        }
        for (int s = 0; s < 4; s++) {
            x.sheet(s, s % 3, 10 * s);
        }
        for (int i = 0; i < (full ? 60 : 30); i++) {
            x.form(i % 20, i % 4);
            x.read(i / 2, i % 4, i % 3 == 0, i % 5);
        }
        for (int i = 0; i < (full ? 30 : 2); i++) {
            x.list();
            x.pass(1);
        }
        for (int i = 0; i < 8; i++) {
            x.choice(i % 2 == 0, i % 6, 9 * i);
        }
        while (full && x.count(8) < 200) {
            Check.say(x, ";n=1");
        }
    }

    private static void answers(FilledRoll x, Method method, Random random) throws IllegalAccessException {
        Class<?>[] kinds = method.getParameterTypes();
        Object[] numbers = new Object[kinds.length];
        boolean tame = random.nextBoolean();
        for (int i = 0; i < kinds.length; i++) {
            int n = tame ? random.nextInt(6) : ODD[random.nextInt(ODD.length)];
            numbers[i] = kinds[i] == boolean.class ? (Object) (n % 2 == 0) : (Object) n;
        }
        // Full objects stay full.
        if (method.getName().equals("wipe") && random.nextInt(20) > 0) {
            return;
        }
        try {
            method.invoke(x, numbers);
            CHECK.holds(method.getName(), true);
        } catch (InvocationTargetException e) {
            CHECK.holds(method.getName() + Arrays.toString(numbers) + " threw " + e.getCause(), false);
        }
    }
}
