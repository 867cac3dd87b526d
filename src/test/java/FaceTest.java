import java.lang.reflect.Constructor;
import java.lang.reflect.Field;
import java.lang.reflect.Method;
import java.lang.reflect.Modifier;
import java.util.Arrays;
import java.util.Set;
import java.util.TreeSet;

/** The public face of the document, and no member beside it that others can see. */
public final class FaceTest {
    private static final String INDEX = " IndexOutOfBoundsException";
    private static final String ARGUMENT = " IllegalArgumentException";
    private static final String STATE = " IllegalStateException";
    private static final String[] FACE = {
        "batch(int,int):long" + INDEX + ARGUMENT,
        "clock(int,long):void" + INDEX + ARGUMENT,
        "crash(int):void" + INDEX,
        "deliver(int):int" + INDEX + STATE,
        "issuer(int,int):long" + INDEX,
        "letter(int,int):int" + INDEX,
        "letters():int",
        "lose(int):void" + INDEX,
        "next(int):long" + INDEX,
        "node(int,boolean):void" + INDEX,
        "part(long,int):long" + ARGUMENT,
        "prolong(int):void" + INDEX + STATE,
        "seat(int,int):long" + INDEX,
        "start(int):void" + INDEX + STATE,
        "twin(int):void" + INDEX + STATE,
    };

    public static void main(String[] args) {
        Check check = new Check();
        int modifiers = IssueHouse.class.getModifiers();
        check.due("public final", modifiers & (Modifier.PUBLIC | Modifier.FINAL), Modifier.PUBLIC | Modifier.FINAL);
        check.due("NONE", IssueHouse.NONE, -1);
        methods(check);
        fields(check);
        constructors(check);
        check.end();
    }

    private static void methods(Check check) {
        Set<String> seen = new TreeSet<>();
        Set<String> publicNames = new TreeSet<>();
        Set<String> privateNames = new TreeSet<>();
        for (Method m : IssueHouse.class.getDeclaredMethods()) {
            if (Modifier.isPrivate(m.getModifiers())) {
                privateNames.add(m.getName());
                continue;
            }
            publicNames.add(m.getName());
            seen.add(signature(m));
            if (!Modifier.isPublic(m.getModifiers()) || Modifier.isStatic(m.getModifiers())) {
                check.report(m + " is not of the face");
            }
        }
        if (!seen.equals(new TreeSet<>(Arrays.asList(FACE)))) {
            check.report("the methods are " + seen);
        }
        privateNames.retainAll(publicNames);
        if (!privateNames.isEmpty()) {
            check.report("private methods with the name of a public one: " + privateNames);
        }
    }

    private static String signature(Method m) {
        StringBuilder text = new StringBuilder(m.getName()).append('(');
        String comma = "";
        for (Class<?> type : m.getParameterTypes()) {
            text.append(comma).append(type.getName());
            comma = ",";
        }
        text.append("):").append(m.getReturnType().getName());
        for (Class<?> type : m.getExceptionTypes()) {
            text.append(' ').append(type.getSimpleName());
        }
        return text.toString();
    }

    private static void fields(Check check) {
        for (Field f : IssueHouse.class.getDeclaredFields()) {
            boolean isNone = f.getName().equals("NONE") && f.getType() == int.class
                    && f.getModifiers() == (Modifier.PUBLIC | Modifier.STATIC | Modifier.FINAL);
            if (!isNone && !Modifier.isPrivate(f.getModifiers())) {
                check.report(f + " is not of the face");
            }
        }
    }

    private static void constructors(Check check) {
        Constructor<?>[] all = IssueHouse.class.getDeclaredConstructors();
        check.due("constructors", all.length, 1);
        check.due("its parameters", all[0].getParameterCount(), 0);
        check.due("public", all[0].getModifiers(), Modifier.PUBLIC);
    }
}
