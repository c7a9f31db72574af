import java.lang.reflect.InvocationTargetException;
import java.nio.charset.StandardCharsets;
import java.util.Arrays;

/** What all tests share: telling texts, and comparing answers. */
final class Kit {
    private static int wrong = 0;
    private static int right = 0;

    interface Call {
        Object answer();
    }

    private Kit() {
    }

    static void same(String what, Object due, Object got) {
        if (due.equals(got)) {
            right++;
            return;
        }
        wrong++;
        if (wrong <= 40) {
            System.out.println(what + ": answered " + got + ", due is " + due);
        }
    }

    /** The answer, or the exact name of the exception that was thrown. */
    static Object answer(Call call) {
        try {
            return call.answer();
        } catch (RuntimeException e) {
            return e.getClass().getSimpleName();
        }
    }

    static void due(String what, Object due, Call call) {
        same(what, due, answer(call));
    }

    /** A call by its name; the answer, or the exact name of the exception. */
    static Object ask(SecondPlace x, String name, Object... args) {
        Class<?>[] types = new Class<?>[args.length];
        for (int i = 0; i < args.length; i++) {
            types[i] = args[i] instanceof Boolean ? boolean.class : int.class;
        }
        try {
            return SecondPlace.class.getMethod(name, types).invoke(x, args);
        } catch (InvocationTargetException e) {
            return e.getCause().getClass().getSimpleName();
        } catch (ReflectiveOperationException e) {
            throw new IllegalStateException(e);
        }
    }

    static void asked(String when, SecondPlace x, Object due, String name, Object... args) {
        same(when + ": " + name + Arrays.toString(args), due, ask(x, name, args));
    }

    static void feedBytes(SecondPlace x, byte[] bytes) {
        x.end(0);
        for (int from = 0; from < bytes.length; from += 20) {
            int[] n = new int[5];
            for (int i = 0; i < 20 && from + i < bytes.length; i++) {
                n[i / 4] |= (bytes[from + i] & 255) << 24 - 8 * (i % 4);
            }
            x.feed(n[0], n[1], n[2], n[3], n[4]);
        }
        if (!x.end(bytes.length)) {
            throw new IllegalStateException("a test's text is too long");
        }
    }

    static void feedText(SecondPlace x, String text) {
        feedBytes(x, text.getBytes(StandardCharsets.ISO_8859_1));
    }

    static Object borough(SecondPlace x, String text) {
        feedText(x, text);
        return answer(() -> x.borough());
    }

    static Object law(SecondPlace x, String text) {
        feedText(x, text);
        return answer(() -> x.law());
    }

    static Object write(SecondPlace x, int heap, int... order) {
        byte[] bytes = new byte[order.length];
        for (int i = 0; i < order.length; i++) {
            bytes[i] = (byte) order[i];
        }
        feedBytes(x, bytes);
        return answer(() -> x.write(heap));
    }

    static SecondPlace told(String boroughText) {
        SecondPlace x = new SecondPlace();
        same("told: " + boroughText, 1, borough(x, boroughText));
        return x;
    }

    static SecondPlace told(String boroughText, String lawText) {
        SecondPlace x = told(boroughText);
        Object lines = law(x, lawText);
        same("law: " + lawText, true, lines instanceof Integer);
        return x;
    }

    /** A slip or a want as letters. */
    static String order(SecondPlace x, int heap, boolean want) {
        StringBuilder s = new StringBuilder();
        int one = x.place(heap, 0, want);
        for (int p = 1; one != SecondPlace.NONE; p++) {
            s.append((char) ('a' + one));
            one = x.place(heap, p, want);
        }
        return s.toString();
    }

    /**
     * All that can be seen of an object, but for fault() and the TAPE, by calls that change nothing; of THE LOG the latest
     * three rows and the last one, because an object has 512 calls alone.
     */
    static String state(SecondPlace x) {
        StringBuilder s = new StringBuilder("counts");
        for (int what = 0; what <= 10; what++) {
            s.append(' ').append(x.count(what));
        }
        int seed = x.seed(0);
        x.seed(seed);
        s.append(" seed ").append(seed);
        int heaps = x.count(1);
        int standing = x.count(0);
        for (int h = 0; h < heaps; h++) {
            s.append(" heap ").append(order(x, h, true)).append(' ').append(order(x, h, false));
            for (int what = 0; what < 4; what++) {
                s.append(' ').append(x.heap(h, what));
            }
            for (int one = 0; one < standing; one++) {
                s.append(' ').append(x.gives(h, one));
            }
        }
        int rows = x.count(9);
        for (int ago = 0; ago < rows; ago += ago < 2 || ago == rows - 1 ? 1 : rows - 1 - ago) {
            s.append(" row ").append(x.log(ago, 0)).append(' ').append(x.log(ago, 1));
            s.append(' ').append(x.log(ago, 2)).append(' ').append(x.log(ago, 3));
        }
        return s.toString();
    }

    static void finish() {
        System.out.println(wrong == 0 ? right + " answers are as due" : wrong + " answers are not as due");
        if (wrong != 0) {
            System.exit(1);
        }
    }
}
