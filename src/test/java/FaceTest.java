import java.lang.reflect.Constructor;
import java.lang.reflect.Field;
import java.lang.reflect.Method;
import java.lang.reflect.Modifier;
import java.util.Set;
import java.util.TreeSet;

/** The class has the document's face and shows no other member; names and classes inside keep to rule 1. */
public final class FaceTest {
    private static int wrong = 0;

    private static void due(String what, Object got, Object want) {
        if (!got.equals(want)) {
            wrong++;
            System.out.println(what + ": " + got + ", due is " + want);
        }
    }

    public static void main(String[] args) {
        due("public and final", Modifier.toString(ScriptStack.class.getModifiers()), "public final");
        due("members", members(), new TreeSet<>(Set.of(
            "public static final int REFUSED",
            "public static final int NONE",
            "public static final int FULL",
            "public ScriptStack()",
            "public int ScriptStack.feed(int,int,int,int,int)",
            "public int ScriptStack.end(int)",
            "public int ScriptStack.script(int)",
            "public int ScriptStack.message()",
            "public boolean ScriptStack.run(int)",
            "public int ScriptStack.depth()",
            "public int ScriptStack.element(int,int)",
            "public int ScriptStack.sha()",
            "public int ScriptStack.sign()",
            "public int ScriptStack.back()",
            "public int ScriptStack.octet(int)")));
        due("REFUSED", ScriptStack.REFUSED, -1);
        due("NONE", ScriptStack.NONE, -2);
        due("FULL", ScriptStack.FULL, -3);
        due("private methods that bear a public one's name", borrowedNames(), Set.of());
        due("classes inside that are not static, or show", oddClasses(), Set.of());
        System.out.println(wrong == 0 ? "the face is as due" : wrong + " parts of the face are not as due");
        if (wrong != 0) {
            System.exit(1);
        }
    }

    private static Set<String> members() {
        Set<String> members = new TreeSet<>();
        for (Field f : ScriptStack.class.getDeclaredFields()) {
            if (!Modifier.isPrivate(f.getModifiers())) {
                members.add(Modifier.toString(f.getModifiers()) + " " + f.getType() + " " + f.getName());
            }
        }
        for (Constructor<?> c : ScriptStack.class.getDeclaredConstructors()) {
            if (!Modifier.isPrivate(c.getModifiers())) {
                members.add(c.toString());
            }
        }
        for (Method m : ScriptStack.class.getDeclaredMethods()) {
            if (!Modifier.isPrivate(m.getModifiers())) {
                members.add(m.toString());
            }
        }
        return members;
    }

    private static Set<String> borrowedNames() {
        Set<String> shown = new TreeSet<>();
        for (Method m : ScriptStack.class.getMethods()) {
            if (m.getDeclaringClass() == ScriptStack.class) {
                shown.add(m.getName());
            }
        }
        Set<String> borrowed = new TreeSet<>();
        for (Method m : ScriptStack.class.getDeclaredMethods()) {
            if (Modifier.isPrivate(m.getModifiers()) && shown.contains(m.getName())) {
                borrowed.add(m.toString());
            }
        }
        // the rule may be read to bind the classes inside too
        for (Class<?> inside : ScriptStack.class.getDeclaredClasses()) {
            for (Method m : inside.getDeclaredMethods()) {
                if (shown.contains(m.getName())) {
                    borrowed.add(m.toString());
                }
            }
        }
        return borrowed;
    }

    private static Set<String> oddClasses() {
        Set<String> odd = new TreeSet<>();
        for (Class<?> inside : ScriptStack.class.getDeclaredClasses()) {
            int is = inside.getModifiers();
            if (!Modifier.isStatic(is) || Modifier.isPublic(is) || Modifier.isProtected(is)) {
                odd.add(inside.getName());
            }
        }
        return odd;
    }
}
