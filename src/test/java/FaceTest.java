import java.lang.reflect.Constructor;
import java.lang.reflect.Field;
import java.lang.reflect.Method;
import java.lang.reflect.Modifier;
import java.util.ArrayList;
import java.util.Arrays;
import java.util.List;
import java.util.TreeSet;

/** The face is the document's, and nothing more. */
public final class FaceTest {
    private static final String[] FACE = {
        "int feed(int,int,int,int,int)", "int program(int)", "int fault()", "int where()",
        "boolean start(int,int,int,int)", "int steps(int)", "int run()", "int now(int)", "int counter(int)",
        "int left(int)", "int burnt()", "int path(int)", "int answer(int,int,int,int)", "int parted(int,int)",
        "int mark()", "boolean back(int)", "int must(int)", "int unburnt(int)", "int whole(int)",
        "int longest(int)", "int longestAt(int)", "int ends(int,int)", "int wanted()", "int come()",
        "int even()", "int degree(int)", "int trails()", "int trail(int)", "int keys()", "int seen(int)",
        "int first(int,int)", "int most(int,int)", "int spare(int,int)", "int loop(int,int)",
        "int alike(int,int)", "int unfair(int,int,int)", "int fold(int)", "int same(int)", "int least(int)",
        "int leastLine(int,int)", "int line(int,int)", "int led(int)", "int size(int)", "int trouble()",
    };

    public static void main(String[] args) {
        Check check = new Check("FaceTest");
        check.due("public", Modifier.isPublic(BurntWays.class.getModifiers()), true);
        check.due("final", Modifier.isFinal(BurntWays.class.getModifiers()), true);
        methods(check);
        fields(check);
        Constructor<?>[] made = BurntWays.class.getDeclaredConstructors();
        check.due("constructors", made.length, 1);
        check.due("constructor's parameters", made[0].getParameterCount(), 0);
        check.due("constructor is public", Modifier.isPublic(made[0].getModifiers()), true);
        for (Class<?> inside : BurntWays.class.getDeclaredClasses()) {
            int m = inside.getModifiers();
            check.due(inside + " is static", Modifier.isStatic(m), true);
            check.due(inside + " is hidden", Modifier.isPublic(m) || Modifier.isProtected(m), false);
        }
        check.end();
    }

    private static void methods(Check check) {
        TreeSet<String> found = new TreeSet<>();
        TreeSet<String> publicNames = new TreeSet<>();
        List<Method> others = new ArrayList<>();
        for (Method m : BurntWays.class.getDeclaredMethods()) {
            if (Modifier.isPrivate(m.getModifiers())) {
                others.add(m);
                continue;
            }
            check.due(m + " is public", Modifier.isPublic(m.getModifiers()), true);
            check.due(m + " is static", Modifier.isStatic(m.getModifiers()), false);
            List<String> parameters = new ArrayList<>();
            for (Class<?> p : m.getParameterTypes()) {
                parameters.add(p.getName());
            }
            found.add(m.getReturnType() + " " + m.getName() + "(" + String.join(",", parameters) + ")");
            publicNames.add(m.getName());
        }
        check.due("the face is " + found, found.equals(new TreeSet<>(Arrays.asList(FACE))), true);
        for (Method m : others) {
            check.due(m + " bears a public name", publicNames.contains(m.getName()), false);
        }
    }

    private static void fields(Check check) {
        for (Field f : BurntWays.class.getDeclaredFields()) {
            boolean isNone = f.getName().equals("NONE");
            check.due(f + " is private", Modifier.isPrivate(f.getModifiers()), !isNone);
            check.due(f + " is static, but not final",
                    Modifier.isStatic(f.getModifiers()) && !Modifier.isFinal(f.getModifiers()), false);
        }
        check.due("NONE", BurntWays.NONE, -1);
    }
}
