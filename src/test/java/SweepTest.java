import java.lang.reflect.InvocationTargetException;
import java.lang.reflect.Method;
import java.lang.reflect.Modifier;
import java.util.ArrayList;
import java.util.Arrays;
import java.util.Comparator;
import java.util.List;
import java.util.Set;

/** Every call of the face with every mixture of numbers at and about the bounds, in every state that the document names apart. */
public final class SweepTest {
    private static final int[] ALL = {Integer.MIN_VALUE, -1, 0, 1, 2, 3, 5, 6, 7, 8, 9, 10, 11, 40, 41, 59, 60, 61, Integer.MAX_VALUE};
    private static final int[] FEW = {Integer.MIN_VALUE, -1, 0, 1, 2, 3, 4, 5, 6, 7, 8, Integer.MAX_VALUE};
    private static final Set<String> CHANGES = Set.of("feed", "end", "borough", "law", "write", "habit", "leave", "pay", "want", "years",
        "seed", "undo", "image", "back");
    private static final String HEAPS = ";heap 3 want abc slip bca habit 2 price 4;heap 2 want cab slip cba habit 1 price 9";

    /** What was told, the law ("-" none), and the calls behind it: each a name and its numbers. */
    private static final String[][] STATES = {
        {"", "-"},
        {"", "void"},
        {"stand", "-"},
        {"stand;heap 3 want a slip a habit 2 price 7", "-", "years 2"},
        {"stand;heap 3 want a slip a habit 1 price 7;stray 100", "give 2 if last;void if year>0", "pay 0 0", "image"},
        {"stand;stand;stand", "-", "years 1"},
        {"stand;stand;stand" + HEAPS, "-"},
        {"stand;stand;stand;stray 35" + HEAPS, "give 3 if place<1;give 4 if place>0 and place<2 and not paid;void if paid and one>1",
            "years 60", "pay 1 2", "image", "years 3", "want 0 0 2", "habit 1 3"},
        {"stand;stand;stand" + HEAPS, "give 1 if not paid;give 2 if one<1 and standing>1", "years 5", "leave 1", "pay 0 1", "leave 0"},
        {"stand;stand;stand" + HEAPS, "give 1", "years 5", "leave 2", "leave 1", "leave 0", "image"},
    };

    private SecondPlace x;
    private Model model;
    private int calls;

    public static void main(String[] args) throws Exception {
        List<Method> face = new ArrayList<>();
        for (Method m : SecondPlace.class.getDeclaredMethods()) {
            if (Modifier.isPublic(m.getModifiers())) {
                face.add(m);
            }
        }
        face.sort(Comparator.comparing(Method::getName));
        for (int state = 0; state < STATES.length; state++) {
            for (Method m : face) {
                new SweepTest().sweep(state, m);
            }
        }
        Kit.finish();
    }

    private void sweep(int state, Method m) throws Exception {
        boolean changes = CHANGES.contains(m.getName());
        int count = m.getParameterCount();
        int[] from = count > 2 ? FEW : ALL;
        // The numbers of feed are bytes; one is as good as another.
        int mixtures = m.getName().equals("feed") ? 1 : (int) Math.pow(from.length, count);
        build(state);
        for (int i = 0; i < mixtures; i++) {
            Object[] args = new Object[count];
            boolean twice = false;
            for (int k = 0, rest = i; k < count; k++, rest /= from.length) {
                boolean bool = m.getParameterTypes()[k] == boolean.class;
                args[k] = bool ? (Object) (rest % from.length == 0) : (Object) from[rest % from.length];
                twice = twice || bool && rest % from.length > 1;
            }
            if (twice) {
                continue;
            }
            if (changes && i > 0 || calls > 480) {
                build(state);
            }
            Object due = ask(model, m.getName(), args);
            String what = "state " + state + " " + m.getName() + Arrays.toString(args);
            Kit.same(what, String.valueOf(due), String.valueOf(ask(x, m.getName(), args)));
            calls++;
            if (changes && !String.valueOf(due).startsWith("throws")) {
                Kit.same(what + " then", seen(model), seen(x));
            }
        }
    }

    private void build(int state) throws Exception {
        x = new SecondPlace();
        model = new Model();
        calls = 0;
        tell(STATES[state][0], "borough");
        if (!STATES[state][1].equals("-")) {
            tell(STATES[state][1], "law");
        }
        for (int i = 2; i < STATES[state].length; i++) {
            String[] words = STATES[state][i].split(" ");
            Object[] args = new Object[words.length - 1];
            for (int k = 0; k < args.length; k++) {
                args[k] = Integer.valueOf(words[k + 1]);
            }
            both(words[0], args);
        }
    }

    private void tell(String text, String name) throws Exception {
        int length = text.length();
        StringBuilder padded = new StringBuilder(text);
        while (padded.length() % 20 != 0) {
            padded.append(' ');
        }
        for (int from = 0; from < padded.length(); from += 20) {
            Object[] args = new Object[5];
            for (int k = 0; k < 5; k++) {
                int at = from + 4 * k;
                args[k] = padded.charAt(at) << 24 | padded.charAt(at + 1) << 16 | padded.charAt(at + 2) << 8 | padded.charAt(at + 3);
            }
            both("feed", args);
        }
        both("end", length);
        both(name);
    }

    private void both(String name, Object... args) throws Exception {
        calls++;
        Kit.same("building: " + name + Arrays.toString(args), String.valueOf(ask(model, name, args)), String.valueOf(ask(x, name, args)));
    }

    /** Enough to see what a call has changed. */
    private static String seen(Object on) throws Exception {
        StringBuilder s = new StringBuilder();
        for (int what = 0; what <= 10; what++) {
            s.append(ask(on, "count", what)).append(' ');
        }
        for (int heap = 0; heap < 2; heap++) {
            for (int what = 0; what < 8; what++) {
                s.append(ask(on, "heap", heap, what)).append(' ');
            }
            for (int place = 0; place < 3; place++) {
                s.append(ask(on, "place", heap, place, true)).append(ask(on, "place", heap, place, false)).append(' ');
            }
        }
        s.append(ask(on, "fault")).append(' ').append(ask(on, "log", 0, 1)).append(ask(on, "log", 0, 2)).append(ask(on, "log", 1, 0));
        return s.append(ask(on, "end", 1)).append(ask(on, "seed", 3)).append(ask(on, "undo")).append(ask(on, "elected")).toString();
    }

    private static Object ask(Object on, String name, Object... args) throws Exception {
        Class<?>[] types = new Class<?>[args.length];
        for (int i = 0; i < args.length; i++) {
            types[i] = args[i] instanceof Boolean ? boolean.class : int.class;
        }
        Method m = on.getClass().getDeclaredMethod(name, types);
        try {
            return m.invoke(on, args);
        } catch (InvocationTargetException e) {
            return "throws." + e.getCause().getClass().getName();
        }
    }
}
