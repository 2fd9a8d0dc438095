import java.lang.reflect.InvocationTargetException;
import java.lang.reflect.Method;
import java.util.Arrays;
import java.util.Comparator;
import java.util.NoSuchElementException;
import java.util.Random;

/** No call throws, whatever its arguments and the state; only rule does, as the document says. */
public final class WildTest {
    private static final Check CHECK = new Check();
    private static final int[] EDGES = {-1, 0, 1, 2, 7, 8, 9, 10, 12, 13, 60, 61, 70, 71, -70, -71, -2, 1000002, 1000003,
        Integer.MIN_VALUE, Integer.MAX_VALUE, Integer.MIN_VALUE + 1, 4, 5, 3, 6};

    public static void main(String[] args) throws IllegalAccessException {
        Method[] face = Arrays.stream(QuarterWalks.class.getDeclaredMethods())
            .filter(m -> java.lang.reflect.Modifier.isPublic(m.getModifiers()))
            .sorted(Comparator.comparing(Method::getName)).toArray(Method[]::new);
        CHECK.due("methods of the face", face.length, 51);
        for (int seed = 0; seed < 120; seed++) {
            Random r = new Random(seed);
            QuarterWalks q = new QuarterWalks();
            int sets = seed % 9;
            for (int i = 0; i < sets; i++) {
                Check.tell(q, Plain.random(r).text());
            }
            for (int i = 0; i < 500; i++) {
                call(q, face[r.nextInt(face.length)], r, sets);
            }
        }
        CHECK.close();
    }

    private static void call(QuarterWalks q, Method m, Random r, int sets) throws IllegalAccessException {
        Object[] given = new Object[m.getParameterCount()];
        for (int i = 0; i < given.length; i++) {
            if (m.getParameterTypes()[i] == long.class) {
                given[i] = r.nextLong();
            } else {
                given[i] = number(r, sets);
            }
        }
        String name = m.getName() + Arrays.toString(given);
        try {
            m.invoke(q, given);
            CHECK.due(name, 0, 0);
        } catch (InvocationTargetException e) {
            boolean isDue = m.getName().equals("rule") && e.getCause() instanceof NoSuchElementException;
            CHECK.due(name + " throws " + e.getCause(), isDue, true);
        }
    }

    private static int number(Random r, int sets) {
        int kind = r.nextInt(12);
        if (kind == 0) {
            return EDGES[r.nextInt(EDGES.length)];
        }
        if (kind == 1) {
            return r.nextInt();
        }
        return kind < 9 ? r.nextInt(Math.max(1, Math.min(sets, 5))) : r.nextInt(12);
    }
}
