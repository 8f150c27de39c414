import java.lang.reflect.Constructor;
import java.lang.reflect.Field;
import java.lang.reflect.Method;
import java.lang.reflect.Modifier;
import java.util.Set;
import java.util.TreeSet;

/** The public face, and rules 1 and 5 of LANGUAGE.md as far as the class itself shows them. */
public final class FaceTest {
    private static final Set<String> FACE = Set.of(
        "octet(int,int)", "answer(int,int)", "reset(int)", "offline(int,int,int,int)", "join(int)", "owes(int,int)",
        "acts()", "act(int,int)", "sum(int)", "state(int,int)", "waits(int,int)");

    public static void main(String[] args) {
        Bench bench = new Bench();
        Class<?> face = ExchangeWire.class;
        bench.due("NONE", ExchangeWire.NONE, -1);
        bench.due("the class", Modifier.toString(face.getModifiers()), "public final");
        bench.due("constructors", face.getDeclaredConstructors().length, 1);
        for (Constructor<?> made : face.getDeclaredConstructors()) {
            bench.due("the constructor", Modifier.toString(made.getModifiers()) + made.getParameterCount(), "public0");
        }
        methods(bench, face);
        fields(bench, face);
        for (Class<?> inside : face.getDeclaredClasses()) {
            bench.due(inside + " is static", Modifier.isStatic(inside.getModifiers()) ? 1 : 0, 1);
            for (Field field : inside.getDeclaredFields()) {
                staticIsFinal(bench, field);
            }
        }
        bench.end();
    }

    private static void methods(Bench bench, Class<?> face) {
        Set<String> shown = new TreeSet<>();
        for (Method method : face.getDeclaredMethods()) {
            StringBuilder types = new StringBuilder();
            for (Class<?> type : method.getParameterTypes()) {
                types.append(types.length() == 0 ? "" : ",").append(type.getName());
            }
            String called = method.getName() + "(" + types + ")";
            if (Modifier.isPrivate(method.getModifiers())) {
                boolean same = FACE.stream().anyMatch(name -> name.startsWith(method.getName() + "("));
                bench.due("a public name on the private " + called, same ? 1 : 0, 0);
            } else {
                shown.add(called);
                bench.due(called, Modifier.toString(method.getModifiers()) + " " + method.getReturnType(), "public int");
            }
        }
        bench.due("the methods", shown.toString(), new TreeSet<>(FACE).toString());
    }

    private static void fields(Bench bench, Class<?> face) {
        for (Field field : face.getDeclaredFields()) {
            boolean isNone = field.getName().equals("NONE");
            bench.due(field + " is private", Modifier.isPrivate(field.getModifiers()) || isNone ? 1 : 0, 1);
            staticIsFinal(bench, field);
        }
    }

    private static void staticIsFinal(Bench bench, Field field) {
        int modifiers = field.getModifiers();
        bench.due(field + " is final", !Modifier.isStatic(modifiers) || Modifier.isFinal(modifiers) ? 1 : 0, 1);
    }
}
