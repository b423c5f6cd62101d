import java.lang.reflect.Constructor;
import java.lang.reflect.Field;
import java.lang.reflect.Method;
import java.lang.reflect.Modifier;
import java.util.List;
import java.util.TreeSet;

/** The public face is the document's and no more; what else there is, is private. */
public final class FaceTest {
    private static final List<String> FACE = List.of(
        "public static final int NONE",
        "public static final int LARGE",
        "public RowTurnSolver(int,int)",
        "public boolean set(int,int,int)",
        "public boolean load(int,int)",
        "public boolean guess(int,int)",
        "public int solution(int)",
        "public int residual(int)",
        "public int bound(int)",
        "public int levels()",
        "public int entry(int,int,int)",
        "public int group(int,int)",
        "public boolean start(int,int,int,int)",
        "public int work(int)",
        "public int run(int)",
        "public int left(int)",
        "public boolean cancel()",
        "public int state()",
        "public int count()",
        "public int recounts()",
        "public int history(int)");

    public static void main(String[] args) {
        TreeSet<String> face = new TreeSet<>();
        TreeSet<String> publicNames = new TreeSet<>();
        for (Field f : RowTurnSolver.class.getDeclaredFields()) {
            take(face, f.getModifiers(), f.toString());
            boolean loose = Modifier.isStatic(f.getModifiers()) && !Modifier.isFinal(f.getModifiers());
            Check.due(f + " is static and not final", loose, false);
        }
        for (Constructor<?> c : RowTurnSolver.class.getDeclaredConstructors()) {
            take(face, c.getModifiers(), c.toString());
        }
        for (Method m : RowTurnSolver.class.getDeclaredMethods()) {
            take(face, m.getModifiers(), m.toString());
            if (Modifier.isPublic(m.getModifiers())) {
                publicNames.add(m.getName());
            }
        }
        for (String member : FACE) {
            Check.due("has " + member, face.remove(member), true);
        }
        Check.due("other members that are not private " + face, face.size(), 0);
        int modifiers = RowTurnSolver.class.getModifiers();
        Check.due("public class", Modifier.isPublic(modifiers), true);
        Check.due("final class", Modifier.isFinal(modifiers), true);
        Check.due("without a package", RowTurnSolver.class.getPackageName().isEmpty(), true);
        innerClasses(publicNames);
        Check.end();
    }

    private static void take(TreeSet<String> face, int modifiers, String member) {
        if (!Modifier.isPrivate(modifiers)) {
            face.add(member.replace("RowTurnSolver.", ""));
        }
    }

    private static void innerClasses(TreeSet<String> publicNames) {
        noPrivateOneNamedLike(publicNames, RowTurnSolver.class);
        for (Class<?> c : RowTurnSolver.class.getDeclaredClasses()) {
            Check.due(c + " is static", Modifier.isStatic(c.getModifiers()), true);
            Check.due(c + " is public", Modifier.isPublic(c.getModifiers()), false);
            Check.due(c + " is protected", Modifier.isProtected(c.getModifiers()), false);
            noPrivateOneNamedLike(publicNames, c);
            for (Field f : c.getDeclaredFields()) {
                boolean loose = Modifier.isStatic(f.getModifiers()) && !Modifier.isFinal(f.getModifiers());
                Check.due(f + " is static and not final", loose, false);
            }
        }
    }

    private static void noPrivateOneNamedLike(TreeSet<String> publicNames, Class<?> c) {
        for (Method m : c.getDeclaredMethods()) {
            boolean named = Modifier.isPrivate(m.getModifiers()) && publicNames.contains(m.getName());
            Check.due(m + " is private and has a public one's name", named, false);
        }
    }
}
