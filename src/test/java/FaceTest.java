import java.lang.reflect.Constructor;
import java.lang.reflect.Field;
import java.lang.reflect.Method;
import java.lang.reflect.Modifier;
import java.util.Arrays;
import java.util.TreeSet;

/** The public face: every member that the document tells, and no other one that is not private. */
public final class FaceTest {

    private static final String[] DUE = {
        "append(int) IllegalArgumentException IllegalStateException",
        "clearText()",
        "errorPosition(boolean)",
        "question() IllegalStateException",
        "about(int) IllegalArgumentException",
        "triple(int,int) IndexOutOfBoundsException IllegalArgumentException",
        "remembered(int) IllegalArgumentException",
        "weight()",
        "count(int) IllegalArgumentException",
        "cost(int,int) IllegalArgumentException IndexOutOfBoundsException",
        "by(int) IllegalArgumentException",
        "reach(int,int) IllegalArgumentException IndexOutOfBoundsException",
        "answer(int,int) IllegalArgumentException",
        "pairs(int,int,int,int) IllegalArgumentException",
        "joinCost(int,int,int,int,boolean) IllegalArgumentException",
        "add(int) IllegalArgumentException IllegalStateException",
        "addAll() IllegalStateException",
        "remove(int) IllegalArgumentException",
        "ask(int) IllegalArgumentException",
        "build(int) IndexOutOfBoundsException IllegalStateException",
        "drop(int) IndexOutOfBoundsException IllegalStateException",
        "tidy()",
        "setWeight(int) IllegalArgumentException",
        "undo() IllegalStateException",
        "value(int) IndexOutOfBoundsException",
        "advised()",
        "spare()",
        "needed()",
        "ifKept(int) IllegalArgumentException",
        "bestSet()",
        "runScript(int,long) IllegalArgumentException",
        "simulate(long,int) IllegalArgumentException",
        "save(int) IndexOutOfBoundsException",
        "restore(int) IndexOutOfBoundsException IllegalStateException",
    };

    public static void main(String[] args) {
        TreeSet<String> due = new TreeSet<>(Arrays.asList(DUE));
        TreeSet<String> got = new TreeSet<>();
        for (Method method : TripleWays.class.getDeclaredMethods()) {
            if (!Modifier.isPrivate(method.getModifiers())) {
                got.add(told(method));
                Check.same(method.getName() + " is public", Modifier.isPublic(method.getModifiers()) ? 1 : 0, 1);
                Check.same(method.getName() + " is static", Modifier.isStatic(method.getModifiers()) ? 1 : 0, 0);
                Check.same(method.getName() + " answers an int", method.getReturnType() == int.class ? 1 : 0, 1);
            }
        }
        Check.alike("the face", got.toString(), due.toString());
        for (Field field : TripleWays.class.getDeclaredFields()) {
            boolean told = field.getName().equals("NONE");
            Check.same(field.getName() + " is private", Modifier.isPrivate(field.getModifiers()) ? 1 : 0, told ? 0 : 1);
        }
        for (Constructor<?> constructor : TripleWays.class.getDeclaredConstructors()) {
            Check.same("parameters of the constructor", constructor.getParameterCount(), 0);
            Check.same("the constructor is public", Modifier.isPublic(constructor.getModifiers()) ? 1 : 0, 1);
        }
        int modifiers = TripleWays.class.getModifiers();
        Check.same("the class is public and final", Modifier.isPublic(modifiers) && Modifier.isFinal(modifiers) ? 1 : 0, 1);
        Check.same("NONE", TripleWays.NONE, -1);
        classesInside();
        namesOfPrivateMethods();
        Check.end();
    }

    private static void classesInside() {
        for (Class<?> inside : TripleWays.class.getDeclaredClasses()) {
            int modifiers = inside.getModifiers();
            boolean seen = Modifier.isPublic(modifiers) || Modifier.isProtected(modifiers);
            Check.same(inside.getSimpleName() + " is public or protected", seen ? 1 : 0, 0);
            Check.same(inside.getSimpleName() + " is static", Modifier.isStatic(modifiers) ? 1 : 0, 1);
        }
    }

    private static void namesOfPrivateMethods() {
        TreeSet<String> names = new TreeSet<>();
        for (String told : DUE) {
            names.add(told.substring(0, told.indexOf('(')));
        }
        for (Method method : TripleWays.class.getDeclaredMethods()) {
            boolean twice = Modifier.isPrivate(method.getModifiers()) && names.contains(method.getName());
            Check.same("a private method bears the public name " + method.getName(), twice ? 1 : 0, 0);
        }
    }

    private static String told(Method method) {
        StringBuilder told = new StringBuilder(method.getName()).append('(');
        String comma = "";
        for (Class<?> type : method.getParameterTypes()) {
            told.append(comma).append(type.getSimpleName());
            comma = ",";
        }
        told.append(')');
        for (Class<?> type : method.getExceptionTypes()) {
            told.append(' ').append(type.getSimpleName());
        }
        return told.toString();
    }
}
