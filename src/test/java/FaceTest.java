import java.lang.reflect.Constructor;
import java.lang.reflect.Field;
import java.lang.reflect.Method;
import java.lang.reflect.Modifier;
import java.util.Arrays;
import java.util.Set;
import java.util.TreeSet;

/** The public face, and rules 1, 5 and 7 of LANGUAGE.md as far as the class itself shows them. */
public final class FaceTest {
    private static final Set<String> FACE = Set.of(
        "octet(int,int)", "answer(int,int)", "reset(int)", "offline(int,int,int,int)", "join(int)", "owes(int,int)",
        "acts()", "act(int,int)", "sum(int)", "state(int,int)", "waits(int,int)");

    public static void main(String[] args) {
        Bench bench = new Bench();
        Class<?> face = ExchangeWire.class;
        bench.due("NONE", ExchangeWire.NONE, -1);
        bench.due("the class", Modifier.toString(face.getModifiers()), "public final");
        bench.due("constructors", face.getDeclaredConstructors().length, 1);
        for (Constructor<?> made : face.getDeclaredConstructors()) {
            bench.due("the constructor", Modifier.toString(made.getModifiers()) + made.getParameterCount(), "public0");
        }
        methods(bench, face);
        fields(bench, face);
        ownThrow(bench);
        for (Class<?> inside : face.getDeclaredClasses()) {
            int modifiers = inside.getModifiers();
            bench.due(inside + " is static", Modifier.isStatic(modifiers) ? 1 : 0, 1);
            boolean shown = Modifier.isPublic(modifiers) || Modifier.isProtected(modifiers);
            bench.due(inside + " is public or protected", shown ? 1 : 0, 0);
            for (Field field : inside.getDeclaredFields()) {
                staticIsFinal(bench, field);
            }
        }
        bench.end();
    }

    private static void methods(Bench bench, Class<?> face) {
        Set<String> shown = new TreeSet<>();
        for (Method method : face.getDeclaredMethods()) {
            StringBuilder types = new StringBuilder();
            for (Class<?> type : method.getParameterTypes()) {
                types.append(types.length() == 0 ? "" : ",").append(type.getName());
            }
            String called = method.getName() + "(" + types + ")";
            if (Modifier.isPrivate(method.getModifiers())) {
                boolean same = FACE.stream().anyMatch(name -> name.startsWith(method.getName() + "("));
                bench.due("a public name on the private " + called, same ? 1 : 0, 0);
            } else {
                shown.add(called);
                bench.due(called, Modifier.toString(method.getModifiers()) + " " + method.getReturnType(), "public int");
                bench.due("what " + called + " throws", Arrays.toString(method.getExceptionTypes()),
                    method.getName().equals("answer") ? "[class java.lang.ArrayIndexOutOfBoundsException]" : "[]");
            }
        }
        bench.due("the methods", shown.toString(), new TreeSet<>(FACE).toString());
    }

    private static void fields(Bench bench, Class<?> face) {
        for (Field field : face.getDeclaredFields()) {
            boolean isNone = field.getName().equals("NONE");
            String shown = Modifier.toString(field.getModifiers()) + " " + field.getType();
            if (isNone) {
                bench.due("NONE is", shown, "public static final int");
            } else {
                bench.due(field + " is private", Modifier.isPrivate(field.getModifiers()) ? 1 : 0, 1);
            }
            staticIsFinal(bench, field);
        }
    }

    /** The machine's own exceptions of an index begin their text with "Index" or "Array index". */
    private static void ownThrow(Bench bench) {
        ExchangeWire x = new ExchangeWire();
        Bench.send(x, 0, "S1");
        int[][] places = {{0, -1}, {0, 8}, {0, 99}, {0, Integer.MIN_VALUE}, {1, 0}, {-1, 0}, {6, 0}};
        for (int[] place : places) {
            String call = "answer(" + place[0] + ", " + place[1] + ")";
            String text = "nothing thrown";
            try {
                x.answer(place[0], place[1]);
            } catch (ArrayIndexOutOfBoundsException e) {
                text = e.getClass().getSimpleName() + (isTheMachines(e) ? " of the machine" : "");
            }
            bench.due(call, text, "ArrayIndexOutOfBoundsException");
        }
    }

    private static boolean isTheMachines(ArrayIndexOutOfBoundsException e) {
        return e.getMessage() != null && e.getMessage().matches("(Array i|I)ndex.*");
    }

    private static void staticIsFinal(Bench bench, Field field) {
        int modifiers = field.getModifiers();
        bench.due(field + " is final", !Modifier.isStatic(modifiers) || Modifier.isFinal(modifiers) ? 1 : 0, 1);
    }
}
