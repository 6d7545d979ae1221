import java.lang.reflect.Constructor;
import java.lang.reflect.Field;
import java.lang.reflect.Method;
import java.lang.reflect.Modifier;
import java.util.Arrays;
import java.util.Set;
import java.util.TreeSet;

/** The public face: just what the document shows, and nothing else that can be seen. */
public final class FaceTest {
    private static final String[] METHODS = {
        "int person(int,int)", "boolean dead(int,int)", "int house(int,int)", "boolean level(int,int)",
        "long money(int,int,int)", "int paper(int,int,int,int,int,int)", "boolean isFalse(int)", "int later(int)",
        "int holder(int,int,int)", "int loose(int,int)", "int feed(int,int,int,int,int)", "int end(int)", "int law()",
        "int fault(int)", "int claim(int)", "int ruling(int,int)", "int sum(int,int)", "int term(int,int,int)",
        "long share(int,int,int,int)", "int want(int,int,int)", "int joy()", "int swap(int)", "int about(int)",
    };

    public static void main(String[] args) {
        Due.is("NONE", HomeRoll.NONE, -1);
        Due.is("public final", HomeRoll.class.getModifiers(), Modifier.PUBLIC | Modifier.FINAL);
        Set<String> seen = new TreeSet<>();
        Set<String> publicNames = new TreeSet<>();
        for (Method method : HomeRoll.class.getDeclaredMethods()) {
            if (!Modifier.isPrivate(method.getModifiers())) {
                seen.add(method.toString().replace("HomeRoll.", ""));
                publicNames.add(method.getName());
            }
        }
        Set<String> due = new TreeSet<>();
        for (String method : METHODS) {
            due.add("public " + method);
        }
        Due.is("methods " + seen, seen.equals(due), true);
        for (Field field : HomeRoll.class.getDeclaredFields()) {
            boolean isNone = field.toString().equals("public static final int HomeRoll.NONE");
            Due.is(field.toString(), isNone || Modifier.isPrivate(field.getModifiers()), true);
        }
        Constructor<?>[] constructors = HomeRoll.class.getDeclaredConstructors();
        Due.is("constructors", Arrays.toString(constructors).equals("[public HomeRoll()]"), true);
        for (Class<?> inside : HomeRoll.class.getDeclaredClasses()) {
            Due.is(inside + " is static", Modifier.isStatic(inside.getModifiers()), true);
            checkNames(inside, publicNames);
        }
        checkNames(HomeRoll.class, publicNames);
        Due.end("FaceTest");
    }

    private static void checkNames(Class<?> of, Set<String> publicNames) {
        for (Method method : of.getDeclaredMethods()) {
            if (of != HomeRoll.class || Modifier.isPrivate(method.getModifiers())) {
                Due.is(method + " bears a public name", publicNames.contains(method.getName()), false);
            }
        }
    }
}
