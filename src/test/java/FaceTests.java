import java.lang.reflect.Constructor;
import java.lang.reflect.Field;
import java.lang.reflect.Member;
import java.lang.reflect.Method;
import java.lang.reflect.Modifier;
import java.util.Arrays;
import java.util.Set;
import java.util.TreeSet;

/** The public face: every member that the document lists, and no other one that is not private. */
public final class FaceTests {
    private static final String[] CALLS = {
        "int letter(int)", "int blank()", "int fault()", "int stile()",
        "int thing(int,int)", "int as(int,int)", "int person(int,int)",
        "int carry(int,int)", "int cross(int)", "int round(int,int)", "int polish(int,int,int)", "int forgive(int)",
        "int worse(int,int)", "int width(int)", "int parts(int)", "int hope(int,int)", "int game(int)",
        "int see(int,int,boolean)", "int forget()", "int days(int,int,int)",
        "int image()", "int restore()", "int count(int)", "long digest()"};
    private static final String[] CONSTANTS =
        {"int NONE", "int UNKNOWN", "int OUTSIDE", "int STATE", "int FULL"};

    public static void main(String[] args) {
        int modifiers = WorseStile.class.getModifiers();
        due("the class is public and final", Modifier.isPublic(modifiers) && Modifier.isFinal(modifiers));
        due("it stands in no package", WorseStile.class.getPackageName().isEmpty());
        dueSame("calls", calls(), CALLS);
        dueSame("constants", constants(), CONSTANTS);
        constructors();
        classesInside();
        Due.end("FaceTests");
    }

    private static void due(String what, boolean is) {
        Due.due(what, is ? 1 : 0, 1);
    }

    private static void dueSame(String what, Set<String> found, String[] listed) {
        Set<String> asListed = new TreeSet<>(Arrays.asList(listed));
        due(what + " are " + found + ", listed are " + asListed, found.equals(asListed));
    }

    // Those that javac makes itself are nobody's to call.
    private static boolean isHidden(Member member) {
        return Modifier.isPrivate(member.getModifiers()) || member.isSynthetic();
    }

    private static Set<String> calls() {
        Set<String> found = new TreeSet<>();
        for (Method method : WorseStile.class.getDeclaredMethods()) {
            if (isHidden(method)) {
                due(method.getName() + " is no name of a call", notACall(method.getName()));
                continue;
            }
            String text = method.toGenericString().replace("WorseStile.", "");
            found.add(text.replace("public ", ""));
            due(text + " is public", Modifier.isPublic(method.getModifiers()));
        }
        return found;
    }

    private static boolean notACall(String name) {
        for (String call : CALLS) {
            if (call.contains(" " + name + "(")) {
                return false;
            }
        }
        return true;
    }

    private static Set<String> constants() {
        Set<String> found = new TreeSet<>();
        for (Field field : WorseStile.class.getDeclaredFields()) {
            if (!isHidden(field)) {
                found.add(field.getType() + " " + field.getName());
                due(field + " is as listed", field.getModifiers() == (Modifier.PUBLIC | Modifier.STATIC | Modifier.FINAL));
            }
        }
        return found;
    }

    private static void constructors() {
        Constructor<?>[] all = WorseStile.class.getDeclaredConstructors();
        Due.due("constructors", all.length, 1);
        due("it is told nothing", all[0].getParameterCount() == 0);
        due("it is public", Modifier.isPublic(all[0].getModifiers()));
    }

    private static void classesInside() {
        for (Class<?> inside : WorseStile.class.getDeclaredClasses()) {
            int modifiers = inside.getModifiers();
            due(inside + " is not seen from outside", !Modifier.isPublic(modifiers) && !Modifier.isProtected(modifiers));
            due(inside + " is static", Modifier.isStatic(modifiers));
        }
    }
}
