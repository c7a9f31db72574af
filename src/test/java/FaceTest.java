import java.lang.reflect.Constructor;
import java.lang.reflect.Field;
import java.lang.reflect.Method;
import java.lang.reflect.Modifier;
import java.util.Arrays;
import java.util.HashSet;
import java.util.Set;
import java.util.TreeSet;

/** The public face is the document's, to the word, and LANGUAGE.md's rule 1 holds for what is not public. */
public final class FaceTest {
    private static final String[] FACE = {
        "int feed(int,int,int,int,int)", "boolean end(int)",
        "int borough() IllegalArgumentException UnsupportedOperationException",
        "int law() IllegalArgumentException", "int fault()",
        "int heap(int,int) IndexOutOfBoundsException NoSuchElementException",
        "int place(int,int,boolean) IndexOutOfBoundsException", "int points(int) IndexOutOfBoundsException",
        "int gives(int,int) IndexOutOfBoundsException", "int elected()",
        "int write(int) IllegalArgumentException IndexOutOfBoundsException",
        "int habit(int,int) IllegalArgumentException IndexOutOfBoundsException",
        "int leave(int) IndexOutOfBoundsException",
        "int pay(int,int) IllegalStateException IndexOutOfBoundsException",
        "int want(int,int,int) IllegalArgumentException IndexOutOfBoundsException",
        "int years(int) IllegalArgumentException",
        "int writes(int,int,int) IllegalArgumentException IndexOutOfBoundsException",
        "int by(int,boolean) IndexOutOfBoundsException",
        "boolean beats(int,int) IllegalArgumentException IndexOutOfBoundsException",
        "int champion()", "int ring()", "int worst()", "int harm(int) IndexOutOfBoundsException",
        "int least(boolean)", "int spoilers()", "int twins()", "int friends(int) IndexOutOfBoundsException",
        "int cheapest(int,boolean) IndexOutOfBoundsException", "boolean gains(int) IndexOutOfBoundsException",
        "boolean rests()", "int best(int,int) IndexOutOfBoundsException", "int ahead(int) IllegalArgumentException",
        "int settles()", "int round()", "int laws(boolean)", "int samples(int,boolean) IllegalArgumentException",
        "int bought(int) IndexOutOfBoundsException",
        "int over(int,int) IllegalArgumentException IndexOutOfBoundsException", "int margin()",
        "int trial(int,boolean) IllegalArgumentException", "int span(int,boolean) IllegalArgumentException",
        "int led(int,boolean) IndexOutOfBoundsException", "int log(int,int) NoSuchElementException",
        "int seed(int)", "boolean undo()", "void image()", "boolean back()", "int count(int)",
    };

    public static void main(String[] args) throws Exception {
        Kit.same("promise 1: final and public", Modifier.PUBLIC | Modifier.FINAL, SecondPlace.class.getModifiers());
        Set<String> methods = new TreeSet<>();
        Set<String> names = new HashSet<>();
        for (Method m : SecondPlace.class.getDeclaredMethods()) {
            if (Modifier.isPublic(m.getModifiers())) {
                methods.add(told(m));
                names.add(m.getName());
            } else if (!m.isSynthetic()) {
                Kit.same(m.getName() + " is private", true, Modifier.isPrivate(m.getModifiers()));
            }
        }
        Kit.same("the methods", new TreeSet<>(Arrays.asList(FACE)).toString(), methods.toString());
        Kit.same("one constructor", 1, SecondPlace.class.getDeclaredConstructors().length);
        for (Constructor<?> c : SecondPlace.class.getDeclaredConstructors()) {
            Kit.same("the constructor", "0 " + Modifier.PUBLIC, c.getParameterCount() + " " + c.getModifiers());
        }
        for (Field f : SecondPlace.class.getDeclaredFields()) {
            boolean none = f.getName().equals("NONE");
            Kit.same("the field " + f.getName(), !none, Modifier.isPrivate(f.getModifiers()));
        }
        Kit.same("NONE", -1, SecondPlace.NONE);
        for (Method m : SecondPlace.class.getDeclaredMethods()) {
            boolean clash = Modifier.isPrivate(m.getModifiers()) && names.contains(m.getName());
            Kit.same("private " + m.getName() + " bears a public name", false, clash);
        }
        for (Class<?> inner : SecondPlace.class.getDeclaredClasses()) {
            Kit.same(inner.getName() + " is static", true, Modifier.isStatic(inner.getModifiers()));
            for (Method m : inner.getDeclaredMethods()) {
                Kit.same(inner.getName() + "." + m.getName() + " bears a public name", false, names.contains(m.getName()));
            }
        }
        Kit.finish();
    }

    private static String told(Method m) {
        StringBuilder s = new StringBuilder(m.getReturnType().getSimpleName() + " " + m.getName() + "(");
        for (int i = 0; i < m.getParameterCount(); i++) {
            s.append(i == 0 ? "" : ",").append(m.getParameterTypes()[i].getSimpleName());
        }
        s.append(")");
        Set<String> thrown = new TreeSet<>();
        for (Class<?> c : m.getExceptionTypes()) {
            thrown.add(c.getSimpleName());
        }
        for (String t : thrown) {
            s.append(" ").append(t);
        }
        return s.toString();
    }
}
