import java.lang.reflect.Constructor;
import java.lang.reflect.Field;
import java.lang.reflect.Method;
import java.lang.reflect.Modifier;
import java.util.ArrayList;
import java.util.Arrays;
import java.util.List;
import java.util.Set;
import java.util.TreeSet;

/** The public face: what the document tells, and nothing else that can be seen from outside. */
public final class FaceTest {
    private static final String[] METHODS = {
        "set(int,int)", "fill(int,int)", "strike(int,int,int)", "storm(int)", "harm(int,int)", "endYear()",
        "namesake()", "apologise(int)", "write(int,int)", "of(int,int)", "letter(int,int)", "listed(int,int,int)",
        "ofStorm(int,int)", "ofNamesake(int,int)", "ranked(int)", "sign(int)", "count(int)", "find()", "beginning()",
        "next(int)", "left(int,int)", "ifRetired(int)", "same(int,int)", "put(long)", "wipe()", "fault()", "undo()",
        "save(int)", "restore(int)"
    };
    private static final String[] CONSTANTS = {
        "NO_SUCH", "BAD_VALUE", "BAD_TEXT", "TOO_MANY", "NOT_POSSIBLE", "NONE", "HARM", "SORRY", "LIKE"
    };
    private static final Due due = new Due();

    public static void main(String[] args) {
        due.promise(0, "the public face");
        due.is("final and public", GaleNames.class.getModifiers(), Modifier.PUBLIC | Modifier.FINAL);
        sameNames("methods", visibleMethods(), METHODS);
        sameNames("constants", visibleFields(), CONSTANTS);
        Constructor<?>[] constructors = GaleNames.class.getDeclaredConstructors();
        due.is("constructors", constructors.length, 1);
        due.is("public", constructors[0].getModifiers(), Modifier.PUBLIC);
        due.is("its parameters", constructors[0].getParameterCount(), 0);
        noNameTwice();
        due.end();
    }

    private static List<String> visibleMethods() {
        List<String> names = new ArrayList<>();
        for (Method method : GaleNames.class.getDeclaredMethods()) {
            if (Modifier.isPrivate(method.getModifiers()) || method.isSynthetic()) continue;
            due.is(method + " is public alone", method.getModifiers(), Modifier.PUBLIC);
            due.is(method + " returns an int", method.getReturnType() == int.class ? 1 : 0, 1);
            due.is(method + " declares an exception", method.getExceptionTypes().length, 0);
            names.add(method.getName() + parameters(method));
        }
        return names;
    }

    private static String parameters(Method method) {
        StringBuilder text = new StringBuilder("(");
        for (Class<?> type : method.getParameterTypes()) text.append(text.length() > 1 ? "," : "").append(type.getName());
        return text.append(")").toString();
    }

    private static List<String> visibleFields() {
        List<String> names = new ArrayList<>();
        for (Field field : GaleNames.class.getDeclaredFields()) {
            if (Modifier.isPrivate(field.getModifiers())) continue;
            due.is(field + " is a constant", field.getModifiers(), Modifier.PUBLIC | Modifier.STATIC | Modifier.FINAL);
            names.add(field.getName());
        }
        return names;
    }

    private static void noNameTwice() {
        Set<String> seen = new TreeSet<>();
        for (Method method : GaleNames.class.getDeclaredMethods()) {
            due.is(method.getName() + " is there twice", seen.add(method.getName()) ? 0 : 1, 0);
        }
        for (Class<?> nested : GaleNames.class.getDeclaredClasses()) {
            for (Method method : nested.getDeclaredMethods()) {
                due.is(nested + " has a name of the face, " + method, seen.contains(method.getName()) ? 1 : 0, 0);
            }
        }
    }

    private static void sameNames(String what, List<String> got, String[] want) {
        Set<String> names = new TreeSet<>(got);
        Set<String> wanted = new TreeSet<>(Arrays.asList(want));
        if (!names.equals(wanted)) System.out.println(names + " for " + wanted);
        due.is(what, names.equals(wanted) ? 1 : 0, 1);
    }
}
