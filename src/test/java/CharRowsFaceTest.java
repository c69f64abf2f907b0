import java.lang.reflect.Constructor;
import java.lang.reflect.Field;
import java.lang.reflect.Member;
import java.lang.reflect.Method;
import java.lang.reflect.Modifier;
import java.util.Arrays;
import java.util.Set;
import java.util.TreeSet;

/** The class has the document's face and nothing else that others could see. */
public final class CharRowsFaceTest {
    public static void main(String[] args) {
        Set<String> due = new TreeSet<>(Arrays.asList(
            "public static final int CharRows.NONE",
            "public CharRows()",
            "public int CharRows.add(int,int) throws java.lang.IllegalArgumentException",
            "public void CharRows.clear()",
            "public int CharRows.fold()",
            "public int CharRows.turn()",
            "public void CharRows.keep()",
            "public int CharRows.join()",
            "public boolean CharRows.has(int)",
            "public int CharRows.ranges()",
            "public int CharRows.range(int,int)",
            "public int CharRows.rows()",
            "public int CharRows.row(int,int,int)",
            "public boolean CharRows.takes(int,int)"));
        Due.same("the face", visible(), due);
        Due.same("the class", Modifier.toString(CharRows.class.getModifiers()), "public final");
        Due.answer("NONE", CharRows.NONE, -1);
        noHiddenNamesake();
        classesInside();
        Due.end();
    }

    private static Set<String> visible() {
        Set<String> seen = new TreeSet<>();
        for (Field f : CharRows.class.getDeclaredFields()) {
            note(seen, f);
        }
        for (Constructor<?> c : CharRows.class.getDeclaredConstructors()) {
            note(seen, c);
        }
        for (Method m : CharRows.class.getDeclaredMethods()) {
            note(seen, m);
        }
        return seen;
    }

    private static void note(Set<String> seen, Member member) {
        if (!Modifier.isPrivate(member.getModifiers())) {
            seen.add(member.toString());
        }
    }

    private static void noHiddenNamesake() {
        Set<String> names = new TreeSet<>();
        for (Method m : CharRows.class.getMethods()) {
            names.add(m.getName());
        }
        for (Method m : CharRows.class.getDeclaredMethods()) {
            boolean namesake = Modifier.isPrivate(m.getModifiers()) && names.contains(m.getName());
            Due.answer("a private method bears the name " + m.getName(), namesake, false);
        }
    }

    private static void classesInside() {
        for (Class<?> inside : CharRows.class.getDeclaredClasses()) {
            int modifiers = inside.getModifiers();
            boolean seen = Modifier.isPublic(modifiers) || Modifier.isProtected(modifiers);
            Due.answer(inside.getName() + " can be seen", seen, false);
            Due.answer(inside.getName() + " is static", Modifier.isStatic(modifiers), true);
        }
    }
}
