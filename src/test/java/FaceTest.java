import java.lang.reflect.Constructor;
import java.lang.reflect.Field;
import java.lang.reflect.Member;
import java.lang.reflect.Method;
import java.lang.reflect.Modifier;
import java.util.ArrayList;
import java.util.List;
import java.util.Set;
import java.util.TreeSet;

/** The public face is the document's and nothing more, as rule 1 of LANGUAGE.md asks. */
public final class FaceTest {
    private static final Set<String> FACE = Set.of(
        "int NONE", "ChamberPacer()", "int tick(int,int,int)", "int run(int,int,int,int)",
        "int program(int,int)", "int receive(int)", "int battery(int)", "int parameter(int)",
        "int waiting(int)", "int since(int)", "int value(int)", "boolean fallback()",
        "int marker(int,int)", "int histogram(int)");

    public static void main(String[] args) {
        Check.due("NONE", ChamberPacer.NONE, -1);
        Check.due("the class is public and final",
            Modifier.toString(ChamberPacer.class.getModifiers()).equals("public final"), true);
        Set<String> visible = visibleMembers();
        Check.due("the face " + visible, visible.equals(FACE), true);
        privateNamesAreOther();
        programDeclaresWhatItThrows();
        Check.end();
    }

    private static Set<String> visibleMembers() {
        Set<String> visible = new TreeSet<>();
        for (Field f : ChamberPacer.class.getDeclaredFields()) {
            add(visible, f, f.getType().getSimpleName() + " " + f.getName());
        }
        for (Constructor<?> c : ChamberPacer.class.getDeclaredConstructors()) {
            add(visible, c, "ChamberPacer(" + types(c.getParameterTypes()) + ")");
        }
        for (Method m : ChamberPacer.class.getDeclaredMethods()) {
            add(visible, m, m.getReturnType().getSimpleName() + " " + m.getName()
                + "(" + types(m.getParameterTypes()) + ")");
        }
        return visible;
    }

    private static void add(Set<String> visible, Member member, String text) {
        if (!Modifier.isPrivate(member.getModifiers())) {
            visible.add(text);
        }
    }

    private static String types(Class<?>[] types) {
        List<String> names = new ArrayList<>();
        for (Class<?> type : types) {
            names.add(type.getSimpleName());
        }
        return String.join(",", names);
    }

    private static void privateNamesAreOther() {
        Set<String> open = new TreeSet<>();
        for (Method m : ChamberPacer.class.getMethods()) {
            open.add(m.getName());
        }
        for (Method m : ChamberPacer.class.getDeclaredMethods()) {
            if (Modifier.isPrivate(m.getModifiers())) {
                Check.due("private " + m.getName() + " has a public name", open.contains(m.getName()), false);
            }
        }
    }

    private static void programDeclaresWhatItThrows() {
        for (Method m : ChamberPacer.class.getMethods()) {
            if (m.getName().equals("program")) {
                Check.due("what program declares", Set.of(m.getExceptionTypes())
                    .equals(Set.of(IllegalArgumentException.class, IllegalStateException.class)), true);
            }
        }
    }
}
