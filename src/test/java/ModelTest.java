import java.lang.reflect.InvocationTargetException;
import java.lang.reflect.Method;
import java.lang.reflect.Modifier;
import java.nio.charset.StandardCharsets;
import java.util.ArrayList;
import java.util.Arrays;
import java.util.List;
import java.util.Random;

/** Runs of random calls, each answered by SecondPlace and by Model: both must answer, or throw, the same. */
public final class ModelTest {
    private final Random random;
    private SecondPlace x = new SecondPlace();
    private Model model = new Model();
    private final List<String> story = new ArrayList<>();
    private boolean differed = false;
    private int calls = 0;

    private ModelTest(long seed) {
        random = new Random(seed);
    }

    public static void main(String[] args) throws Exception {
        int runs = args.length > 0 ? Integer.parseInt(args[0]) : 150;
        long from = args.length > 1 ? Long.parseLong(args[1]) : 0;
        for (long seed = from; seed < from + runs; seed++) {
            new ModelTest(seed).run(seed);
        }
        Kit.finish();
    }

    private void run(long seed) throws Exception {
        Method[] methods = SecondPlace.class.getDeclaredMethods();
        List<Method> face = new ArrayList<>();
        for (Method m : methods) {
            if (Modifier.isPublic(m.getModifiers())) {
                face.add(m);
            }
        }
        face.sort((a, b) -> a.getName().compareTo(b.getName()));
        int style = random.nextInt(4);
        if (random.nextInt(6) == 0) {
            tellFull();
        }
        // An object has 512 calls, and a text takes some twenty.
        for (int i = 0; i < 230 && calls < 480 && !differed; i++) {
            int what = random.nextInt(100);
            if (what < 4 || i < 3 + style) {
                tellText(boroughText(), "borough");
            } else if (what < 8 && style > 0) {
                tellText(lawText(), "law");
            } else if (what < 14) {
                tellSlip();
            } else {
                Method m = face.get(random.nextInt(face.size()));
                // A tape of chance is seldom a text, and an empty one makes an empty law.
                boolean rare = m.getName().equals("leave") && style < 3 || m.getName().equals("back");
                boolean rarer = m.getName().equals("law") || m.getName().equals("borough");
                if (random.nextInt(rarer ? 20 : rare ? 3 : 1) == 0) {
                    call(m.getName(), argumentsOf(m));
                }
            }
            if (style == 3 && random.nextInt(300) == 0) {
                allLeave();
            }
        }
        if (differed) {
            System.out.println("run " + seed + ":");
            story.forEach(line -> System.out.println("  " + line));
        }
    }

    /** Six who stand and eight heaps, so that every row is full. */
    private void tellFull() throws Exception {
        tellText("stand;stand;stand;stand;stand;stand;stray " + random.nextInt(101), "borough");
        for (int i = 0; i < 8; i++) {
            tellText("heap " + (1 + random.nextInt(20)) + " want " + letters(6) + " slip " + letters(6) + " habit " + random.nextInt(4)
                + " price " + (1 + random.nextInt(99)), "borough");
        }
    }

    private void allLeave() throws Exception {
        for (int left = model.count(0); left > 0; left--) {
            call("leave", random.nextInt(left));
        }
    }

    private Object[] argumentsOf(Method m) {
        Object[] args = new Object[m.getParameterCount()];
        boolean wide = m.getName().equals("feed") || m.getName().equals("seed");
        boolean long40 = Arrays.asList("years", "ahead", "trial", "span").contains(m.getName());
        for (int i = 0; i < args.length; i++) {
            if (m.getParameterTypes()[i] == boolean.class) {
                args[i] = random.nextBoolean();
            } else if (wide) {
                args[i] = random.nextInt();
            } else if (long40) {
                args[i] = random.nextInt(4) == 0 ? random.nextInt(65) - 2 : random.nextInt(9);
            } else if (random.nextInt(40) == 0) {
                args[i] = random.nextBoolean() ? Integer.MAX_VALUE : Integer.MIN_VALUE;
            } else {
                args[i] = random.nextInt(6) == 0 ? random.nextInt(14) - 2 : random.nextInt(4);
            }
        }
        return args;
    }

    private Object call(String name, Object... args) throws Exception {
        calls++;
        Object due = answer(model, name, args);
        Object got = answer(x, name, args);
        String told = name + Arrays.toString(args) + " -> " + got;
        story.add(told);
        Kit.same("call " + story.size() + " " + name + Arrays.toString(args), String.valueOf(due), String.valueOf(got));
        differed = differed || !String.valueOf(due).equals(String.valueOf(got));
        return got;
    }

    private static Object answer(Object on, String name, Object[] args) throws Exception {
        Class<?>[] types = new Class<?>[args.length];
        for (int i = 0; i < args.length; i++) {
            types[i] = args[i] instanceof Boolean ? boolean.class : int.class;
        }
        Method m = on.getClass().getDeclaredMethod(name, types);
        try {
            return m.invoke(on, args);
        } catch (InvocationTargetException e) {
            return "throws." + e.getCause().getClass().getName();
        }
    }

    private void tellText(String text, String name) throws Exception {
        story.add("tape: " + text);
        feedAll(text.getBytes(StandardCharsets.ISO_8859_1));
        call(name);
        call("fault");
    }

    private void tellSlip() throws Exception {
        int n = Math.max(0, model.count(0) + (random.nextInt(8) == 0 ? random.nextInt(3) - 1 : 0));
        byte[] order = bytesOf(shuffled(n));
        if (n > 0 && random.nextInt(8) == 0) {
            order[random.nextInt(n)] = (byte) random.nextInt(256);
        }
        feedAll(order);
        call("write", random.nextInt(Math.max(1, model.count(1)) + (random.nextInt(8) == 0 ? 1 : 0)));
    }

    private byte[] bytesOf(List<Integer> order) {
        byte[] bytes = new byte[order.size()];
        for (int i = 0; i < bytes.length; i++) {
            bytes[i] = (byte) (int) order.get(i);
        }
        return bytes;
    }

    private void feedAll(byte[] bytes) throws Exception {
        call("end", 0);
        byte[] padded = Arrays.copyOf(bytes, (bytes.length + 19) / 20 * 20);
        java.nio.IntBuffer numbers = java.nio.ByteBuffer.wrap(padded).asIntBuffer();
        while (numbers.hasRemaining()) {
            call("feed", numbers.get(), numbers.get(), numbers.get(), numbers.get(), numbers.get());
        }
        call("end", bytes.length);
    }

    private List<Integer> shuffled(int n) {
        List<Integer> order = new ArrayList<>();
        for (int i = 0; i < n; i++) {
            order.add(random.nextInt(i + 1), i);
        }
        return order;
    }

    private String letters(int n) {
        StringBuilder s = new StringBuilder();
        shuffled(n).forEach(v -> s.append((char) ('a' + v)));
        return s.toString();
    }

    private String boroughText() {
        int standing = model.count(0);
        int heaps = model.count(1);
        StringBuilder s = new StringBuilder();
        int lines = random.nextInt(8) == 0 ? 0 : 1 + random.nextInt(5);
        for (int i = 0; i < lines; i++) {
            s.append(i == 0 ? "" : ";").append(gap());
            int kind = random.nextInt(10);
            boolean full = standing == 6 && random.nextInt(8) > 0;
            if (kind < 4 && !full || standing == 0 && random.nextInt(12) > 0) {
                s.append("stand");
                standing++;
            } else if (kind < 9 && (heaps < 8 || random.nextInt(8) == 0)) {
                heaps++;
                s.append("heap ").append(1 + random.nextInt(20)).append(gap()).append("want ").append(letters(standing));
                String slip = letters(standing);
                s.append(" slip ").append(slip).append(" ");
                s.append(random.nextInt(5) == 0 ? "" : "habit " + random.nextInt(4)).append(gap());
                s.append("price").append(gap()).append(1 + random.nextInt(99));
            } else {
                s.append("stray ").append(random.nextInt(101));
            }
            s.append(gap());
        }
        return mutated(s.toString());
    }

    private String gap() {
        return random.nextInt(6) == 0 ? "  " : random.nextInt(3) == 0 ? " " : "";
    }

    private String lawText() {
        StringBuilder s = new StringBuilder();
        int lines = random.nextInt(20) == 0 ? 0 : 1 + random.nextInt(random.nextInt(6) == 0 ? 14 : 5);
        for (int i = 0; i < lines && s.length() < 300; i++) {
            s.append(i == 0 ? "" : ";").append(gap());
            boolean voids = random.nextInt(9) == 0;
            s.append(voids ? "void" : "give " + random.nextInt(21)).append(" ");
            if (voids || random.nextInt(5) > 0) {
                boolean plain = random.nextBoolean();
                s.append("if ").append(plain ? "place<" + random.nextInt(6) + " and " + atom(0) : cond(random.nextInt(3), 0));
            }
        }
        return mutated(s.length() > 390 ? "give 1 if place > 0" : s.toString());
    }

    private String cond(int width, int deep) {
        StringBuilder s = new StringBuilder(atom(deep));
        for (int i = 0; i < width; i++) {
            s.append(random.nextBoolean() ? " or " : " and ").append(atom(deep));
        }
        return s.toString();
    }

    private String atom(int deep) {
        int kind = random.nextInt(10);
        if (kind < 2) {
            return "not " + atom(deep + 1);
        }
        if (kind < 4) {
            return "(" + cond(random.nextInt(2), deep + 1) + ")" + gap();
        }
        if (kind == 4) {
            return "paid";
        }
        if (kind == 5) {
            return "last";
        }
        return part() + gap() + (random.nextBoolean() ? "<" : ">") + gap() + part();
    }

    private String part() {
        String[] words = {"place", "place", "one", "first", "standing", "many", "year"};
        String one = random.nextInt(3) == 0 ? "" + random.nextInt(10) : words[random.nextInt(words.length)];
        return random.nextInt(5) == 0 ? one + gap() + "+" + part() : one;
    }

    private String mutated(String text) {
        if (random.nextInt(5) > 0 || text.length() > 390) {
            return text.length() > 400 ? text.substring(0, 400) : text;
        }
        StringBuilder s = new StringBuilder(text);
        int at = random.nextInt(s.length() + 1);
        String signs = "az09 ;()<>+\0\377{`/:ABC";
        int kind = random.nextInt(5);
        if (kind == 0 && at < s.length()) {
            s.deleteCharAt(at);
        } else if (kind == 1) {
            s.insert(at, signs.charAt(random.nextInt(signs.length())));
        } else if (kind == 2 && at < s.length()) {
            s.setCharAt(at, signs.charAt(random.nextInt(signs.length())));
        } else if (kind == 3) {
            s.setLength(at);
        } else {
            s.insert(at, " ");
        }
        return s.length() > 400 ? s.substring(0, 400) : s.toString();
    }
}
