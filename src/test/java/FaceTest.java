import java.lang.reflect.Constructor;
import java.lang.reflect.Field;
import java.lang.reflect.Method;
import java.lang.reflect.Modifier;
import java.util.TreeSet;

/** The class shows the document's face and nothing beside it; run in the project's folder. */
public final class FaceTest {
    private static final String[] FACE = {
        "public static final int PartGraphs.NONE",
        "public PartGraphs()",
        "public boolean PartGraphs.unit(int)",
        "public int PartGraphs.read()",
        "public int PartGraphs.part(int,long)",
        "public int PartGraphs.fasten(int,int,int)",
        "public boolean PartGraphs.cover(int,int)",
        "public boolean PartGraphs.way(int,int,int) throws java.lang.ArrayIndexOutOfBoundsException",
        "public int PartGraphs.before(int,int)",
        "public int PartGraphs.ring(int)",
        "public boolean PartGraphs.option(int,int)",
        "public int PartGraphs.family(int,int)",
        "public boolean PartGraphs.holds(int,int,int)",
        "public int PartGraphs.alike(int,int)",
        "public long PartGraphs.weight(int) throws java.lang.ArrayIndexOutOfBoundsException",
        "public boolean PartGraphs.hazard(int,int)",
        "public int PartGraphs.damage(int,int)",
        "public boolean PartGraphs.free(int,long)",
        "public boolean PartGraphs.plain(int,long)",
        "public int PartGraphs.write(int)",
        "public int PartGraphs.loose()",
    };

    public static void main(String[] args) {
        TreeSet<String> due = new TreeSet<>();
        TreeSet<String> publicNames = new TreeSet<>();
        for (String member : FACE) {
            due.add(member);
        }
        Document.open();
        TreeSet<String> told = Document.face();
        Due.compare("the face that the document tells", told.isEmpty() ? told : due, told);
        TreeSet<String> seen = new TreeSet<>();
        for (Field field : PartGraphs.class.getDeclaredFields()) {
            addSeen(seen, field.getModifiers(), field.toString());
        }
        for (Constructor<?> constructor : PartGraphs.class.getDeclaredConstructors()) {
            addSeen(seen, constructor.getModifiers(), constructor.toString());
        }
        for (Method method : PartGraphs.class.getDeclaredMethods()) {
            addSeen(seen, method.getModifiers(), method.toString());
            if (Modifier.isPublic(method.getModifiers())) {
                publicNames.add(method.getName());
            }
        }
        Due.compare("the face", due, seen);
        Due.yes("the class is public", Modifier.isPublic(PartGraphs.class.getModifiers()));
        Due.yes("the class is final", Modifier.isFinal(PartGraphs.class.getModifiers()));
        Due.same("NONE", -1, PartGraphs.NONE);
        checkHiddenNames(PartGraphs.class, publicNames);
        for (Class<?> inside : PartGraphs.class.getDeclaredClasses()) {
            checkHiddenNames(inside, publicNames);
            Due.yes(inside + " is static", Modifier.isStatic(inside.getModifiers()));
            Due.no(inside + " is public", Modifier.isPublic(inside.getModifiers()));
        }
        Due.end();
    }

    private static void addSeen(TreeSet<String> seen, int modifiers, String member) {
        if (!Modifier.isPrivate(modifiers)) {
            seen.add(member);
        }
    }

    private static void checkHiddenNames(Class<?> type, TreeSet<String> publicNames) {
        for (Method method : type.getDeclaredMethods()) {
            boolean face = type == PartGraphs.class && Modifier.isPublic(method.getModifiers());
            Due.no(method + " bears a public name", !face && publicNames.contains(method.getName()));
        }
    }
}
