import java.lang.reflect.Constructor;
import java.lang.reflect.Field;
import java.lang.reflect.Method;
import java.lang.reflect.Modifier;
import java.util.TreeSet;

/** The public face is the document's, and nothing else can be seen. */
public final class FaceTest {
    private static final String FACE = "ask() bed(int,int) bedded() beds() book(int) byteAt(int) count(int) cut(int) "
        + "days(int) drawn(int,int) ease(int) end(int) fault() feed(int,int,int,int,int) fits() hardest() image(int) "
        + "layer(int,int) like(int) mean(int,int) nests(int) now(int) odds(int,int,int) person(int,int) quarter() "
        + "restore(int) round(int) rounded() said(int) sentence() snag(int,int) stroke(int,int) stuff(int,int) tag(int) "
        + "thing(int,int) told(int) undo()";

    public static void main(String[] args) {
        TreeSet<String> seen = new TreeSet<>();
        TreeSet<String> names = new TreeSet<>();
        for (Method m : CombedOut.class.getDeclaredMethods()) {
            if (Modifier.isPrivate(m.getModifiers())) {
                continue;
            }
            Check.due(m + " is public", Modifier.isPublic(m.getModifiers()), true);
            boolean yes = m.getName().equals("end") || m.getName().equals("image") || m.getName().equals("restore");
            Check.due(m + " answers", m.getReturnType().getName(), yes ? "boolean" : "int");
            StringBuilder text = new StringBuilder(m.getName()).append('(');
            for (Class<?> c : m.getParameterTypes()) {
                text.append(text.charAt(text.length() - 1) == '(' ? "" : ",").append(c.getName());
            }
            seen.add(text.append(')').toString());
            names.add(m.getName());
        }
        Check.due("the methods", String.join(" ", seen), FACE);
        for (Field f : CombedOut.class.getDeclaredFields()) {
            boolean none = f.getName().equals("NONE");
            Check.due(f + " is private", Modifier.isPrivate(f.getModifiers()), !none);
        }
        Constructor<?>[] makers = CombedOut.class.getConstructors();
        Check.due("constructors", makers.length, 1);
        Check.due("NONE", CombedOut.NONE, -1);
        Check.due("final", Modifier.isFinal(CombedOut.class.getModifiers()), true);
        for (Class<?> inside : CombedOut.class.getDeclaredClasses()) {
            Check.due(inside + " is static", Modifier.isStatic(inside.getModifiers()), true);
            for (Method m : inside.getDeclaredMethods()) {
                Check.due(m + " bears another name than the face's", names.contains(m.getName()), false);
            }
        }
        for (Method m : CombedOut.class.getDeclaredMethods()) {
            Check.due(m + " is not private with a public name",
                Modifier.isPrivate(m.getModifiers()) && names.contains(m.getName()), false);
        }
        Check.finish();
    }
}
