import java.lang.reflect.Constructor;
import java.lang.reflect.Field;
import java.lang.reflect.Method;
import java.lang.reflect.Modifier;
import java.util.Arrays;
import java.util.Set;
import java.util.TreeSet;

/** The public face is the document's and no other. */
public final class FaceTest {
    private static final String[] FACE = {
        "int letter(int)", "int town()", "int person(int,int)", "int face(int,int)", "int worth(int)",
        "int lends(int,int)", "int back(int)", "int learns(int,int)", "int becomes(int,int,int)",
        "int turn(int,int,int)", "int months(int)", "int faceThen(int,int,int)", "int wornThen(int,int)",
        "int first(int)", "int meets(int,int)", "int deceived(int,int)", "int famous(int)",
        "int lend(int,int,int)", "int take(int,int)", "int keep(int)", "int chained(int)", "int lot(int)",
        "int fewest(int,int,int)", "int who(int)", "int widow(int,int)", "int twins(int)", "int two(int,int,int)",
        "long quarrel(int,int,int,int,int)", "long mean(int)", "int whatIs(int,int)", "int row(int)", "int judge()",
        "int clear()", "int lots(int,int,int)", "int image()", "int on()", "int count(int)"
    };
    private static int passed = 0;
    private static int failed = 0;

    private static void check(String what, boolean right) {
        if (right) {
            passed++;
        } else {
            failed++;
            System.out.println("wrong: " + what);
        }
    }

    public static void main(String[] args) {
        theFaceIsTheDocuments();
        System.out.println(passed + " passed, " + failed + " failed");
        if (failed != 0) {
            System.exit(1);
        }
    }

    private static void theFaceIsTheDocuments() {
        Class<?> type = EachLendsHisFace.class;
        check("public and final", Modifier.isPublic(type.getModifiers()) && Modifier.isFinal(type.getModifiers()));
        Set<String> seen = new TreeSet<>();
        Set<String> publicNames = new TreeSet<>();
        Set<String> privateNames = new TreeSet<>();
        for (Method method : type.getDeclaredMethods()) {
            if (Modifier.isPrivate(method.getModifiers())) {
                privateNames.add(method.getName());
            } else {
                publicNames.add(method.getName());
                seen.add(signature(method));
                check(method + " is public", Modifier.isPublic(method.getModifiers()));
            }
        }
        check("the methods " + seen, seen.equals(new TreeSet<>(Arrays.asList(FACE))));
        privateNames.retainAll(publicNames);
        check("private methods named like public ones: " + privateNames, privateNames.isEmpty());
        for (Field field : type.getDeclaredFields()) {
            check(field + " is private", Modifier.isPrivate(field.getModifiers()));
        }
        Constructor<?>[] constructors = type.getConstructors();
        check("one constructor", constructors.length == 1 && constructors[0].getParameterCount() == 0);
        for (Class<?> inside : type.getDeclaredClasses()) {
            check(inside + " is static", Modifier.isStatic(inside.getModifiers()));
            check(inside + " is not public", !Modifier.isPublic(inside.getModifiers()));
        }
        check("classes inside", type.getDeclaredClasses().length <= 11);
    }

    private static String signature(Method method) {
        StringBuilder text = new StringBuilder();
        text.append(method.getReturnType().getName()).append(' ').append(method.getName()).append('(');
        String comma = "";
        for (Class<?> parameter : method.getParameterTypes()) {
            text.append(comma).append(parameter.getName());
            comma = ",";
        }
        return text.append(')').toString();
    }
}
