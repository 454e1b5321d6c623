import java.lang.reflect.InvocationTargetException;
import java.lang.reflect.Method;
import java.lang.reflect.Modifier;
import java.util.Arrays;
import java.util.Comparator;
import java.util.NoSuchElementException;
import java.util.Random;

/** Any numbers in any state: nothing is thrown but by led, and all calls end. */
public final class AnyNumberTest {
    private static final int[] NUMBERS = {
        Integer.MIN_VALUE, Integer.MIN_VALUE + 1, -1000, -2, -1, 0, 1, 2, 3, 4, 5, 9, 10, 11, 19, 20, 21, 31, 32, 33,
        63, 64, 99, 100, 255, 256, 900, 901, Integer.MAX_VALUE - 1, Integer.MAX_VALUE,
    };
    private static final String[] TEXTS = {
        "program p",
        "program p,q;line q then to p by 9",
        "program p,q;line p do give p,give q,up a,down b then if c to p by 9 else q by 9;"
                + "line q do give p,give q,up a,down b then if c to p by 9 else q by 9;want 9,9,9,9 is 99",
        "program p,q,r,s;line p then if b to q by 2 else r by 1;line q do down b then to p by 2;line r then end;"
                + "line s then end;want 0,0,0,0 is 0",
    };

    public static void main(String[] args) throws IllegalAccessException {
        Check check = new Check("AnyNumberTest");
        Random random = new Random(7);
        Method[] methods = BurntWays.class.getDeclaredMethods();
        Arrays.sort(methods, Comparator.comparing(Method::getName));
        for (int row = 0; row < 200; row++) {
            BurntWays x = new BurntWays();
            for (int call = 0; call < 512; call++) {
                if (random.nextInt(60) == 0) {
                    Check.tell(x, TEXTS[random.nextInt(TEXTS.length)]);
                }
                Method m = methods[random.nextInt(methods.length)];
                if (Modifier.isPublic(m.getModifiers())) {
                    call(check, x, m, random);
                }
            }
        }
        check.end();
    }

    private static void call(Check check, BurntWays x, Method m, Random random) throws IllegalAccessException {
        Object[] numbers = new Object[m.getParameterCount()];
        for (int i = 0; i < numbers.length; i++) {
            numbers[i] = random.nextInt(3) == 0 ? random.nextInt(5) : NUMBERS[random.nextInt(NUMBERS.length)];
        }
        String thrown = "";
        try {
            m.invoke(x, numbers);
        } catch (InvocationTargetException e) {
            boolean isPromised = m.getName().equals("led") && e.getCause() instanceof NoSuchElementException;
            thrown = isPromised ? "" : " throws " + e.getCause();
        }
        check.due(m.getName() + Arrays.toString(numbers) + thrown, thrown.isEmpty(), true);
    }
}
