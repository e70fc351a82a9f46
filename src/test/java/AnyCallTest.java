import java.lang.reflect.InvocationTargetException;
import java.lang.reflect.Method;
import java.lang.reflect.Modifier;
import java.util.ArrayList;
import java.util.Comparator;
import java.util.List;
import java.util.Random;

/** Whatever a call is given in whatever state, the machine throws nothing. */
public final class AnyCallTest {
    private static final int[] NUMBERS = {Integer.MIN_VALUE, Integer.MIN_VALUE + 1, -1000001, -100000, -99999, -400,
        -60, -24, -10, -9, -4, -2, -1, 0, 0, 0, 1, 1, 1, 2, 2, 3, 3, 4, 5, 6, 7, 9, 10, 11, 12, 13, 14, 20, 23, 24,
        25, 29, 30, 31, 32, 39, 40, 41, 59, 60, 61, 99, 100, 399, 400, 401, 409, 410, 999, 1000, 1023, 1024, 4095,
        9598, 9599, 9600, 9998, 9999, 10000, 99999, 100000, 0x776f7274, 0x68203120, 0x3b3b3b3b,
        Integer.MAX_VALUE - 1, Integer.MAX_VALUE};

    public static void main(String[] args) throws IllegalAccessException {
        Check check = new Check();
        List<Method> face = new ArrayList<>();
        for (Method m : TurnedIsland.class.getDeclaredMethods()) {
            if (Modifier.isPublic(m.getModifiers())) {
                face.add(m);
            }
        }
        // The order in which reflection tells them is not always the same.
        face.sort(Comparator.comparing(Method::getName));
        for (int seed = 0; seed < 400; seed++) {
            calls(face, new Random(seed), check);
        }
        check.close();
    }

    private static void calls(List<Method> face, Random chance, Check check) throws IllegalAccessException {
        TurnedIsland x = new TurnedIsland();
        for (int i = 0; i < 512; i++) {
            Method m = face.get(chance.nextInt(face.size()));
            if (m.getName().equals("notches") && chance.nextInt(10) > 0) {
                continue;
            }
            Object[] given = new Object[m.getParameterCount()];
            for (int k = 0; k < given.length; k++) {
                given[k] = m.getParameterTypes()[k] == boolean.class ? (Object) chance.nextBoolean()
                        : (Object) (chance.nextInt(20) == 0 ? chance.nextInt()
                        : NUMBERS[chance.nextInt(chance.nextBoolean() ? NUMBERS.length : 26)]);
            }
            try {
                m.invoke(x, given);
                check.yes(m.getName(), true);
            } catch (InvocationTargetException e) {
                check.no(m.getName() + " threw " + e.getCause(), true);
            }
        }
    }
}
