import java.lang.reflect.Constructor;
import java.lang.reflect.Field;
import java.lang.reflect.Member;
import java.lang.reflect.Method;
import java.lang.reflect.Modifier;
import java.util.Arrays;
import java.util.TreeSet;

/** The public face is the document's, and nothing else can be seen from outside (LANGUAGE.md, rules 1 and 5). */
public final class FaceTest {
    private static final String[] FACE = {
        "public boolean BranchLayout.go(int,int,int)",
        "public int BranchLayout.align(int,int)",
        "public int BranchLayout.branch(int,int)",
        "public int BranchLayout.bytes(int,int)",
        "public int BranchLayout.label(int)",
        "public int BranchLayout.place(int)",
        "public int BranchLayout.relax()",
        "public int BranchLayout.size(int)",
        "public int BranchLayout.statement(int,int)",
        "public static final int BranchLayout.NONE",
        "public void BranchLayout.clear()",
        "public BranchLayout()",
    };

    public static void main(String[] args) {
        Checks checks = new Checks();
        checks.due("NONE", BranchLayout.NONE, -1);
        checks.due("the class's modifiers", BranchLayout.class.getModifiers(), Modifier.PUBLIC | Modifier.FINAL);
        checks.dueText("the face", visibleMembers().toString(), new TreeSet<>(Arrays.asList(FACE)).toString());
        checkNames(checks);
        checkStaticFields(checks);
        checkClassesInside(checks);
        checks.end();
    }

    private static TreeSet<String> visibleMembers() {
        TreeSet<String> found = new TreeSet<>();
        for (Constructor<?> c : BranchLayout.class.getDeclaredConstructors()) {
            addIfVisible(found, c);
        }
        for (Method m : BranchLayout.class.getDeclaredMethods()) {
            addIfVisible(found, m);
        }
        for (Field f : BranchLayout.class.getDeclaredFields()) {
            addIfVisible(found, f);
        }
        return found;
    }

    private static void addIfVisible(TreeSet<String> found, Member member) {
        if (!Modifier.isPrivate(member.getModifiers())) {
            found.add(member.toString());
        }
    }

    private static void checkNames(Checks checks) {
        TreeSet<String> open = new TreeSet<>();
        TreeSet<String> closed = new TreeSet<>();
        for (Method m : BranchLayout.class.getDeclaredMethods()) {
            (Modifier.isPublic(m.getModifiers()) ? open : closed).add(m.getName());
        }
        closed.retainAll(open);
        checks.dueText("private methods with a public name", closed.toString(), "[]");
    }

    private static void checkStaticFields(Checks checks) {
        for (Field f : BranchLayout.class.getDeclaredFields()) {
            if (Modifier.isStatic(f.getModifiers())) {
                checks.due("static " + f.getName() + " is final", Modifier.isFinal(f.getModifiers()), true);
            }
        }
    }

    private static void checkClassesInside(Checks checks) {
        for (Class<?> c : BranchLayout.class.getDeclaredClasses()) {
            boolean open = (c.getModifiers() & (Modifier.PUBLIC | Modifier.PROTECTED)) != 0;
            checks.due(c.getName() + " is open", open, false);
            checks.due(c.getName() + " is static", Modifier.isStatic(c.getModifiers()), true);
        }
    }
}
