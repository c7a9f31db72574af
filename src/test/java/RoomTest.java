import com.sun.management.ThreadMXBean;
import java.lang.management.ManagementFactory;
import java.lang.reflect.Array;
import java.lang.reflect.Field;
import java.lang.reflect.Modifier;
import java.util.ArrayDeque;
import java.util.Collections;
import java.util.Deque;
import java.util.IdentityHashMap;
import java.util.Set;

/** All calls of one run live in one room: what an object holds and what its calls make stays small. */
public final class RoomTest {
    private static final ThreadMXBean BEAN = (ThreadMXBean) ManagementFactory.getThreadMXBean();

    private RoomTest() {
    }

    public static void main(String[] args) throws Exception {
        SecondPlace x = new SecondPlace();
        held("a new object", x);
        tellFull(x);
        held("a full one", x);
        questionsMakeNothing(x);
        actsMakeNothing(x);
        lawsMakeLittle(x);
        held("one that was used", x);
        Kit.finish();
    }

    private static void tellFull(SecondPlace x) {
        Kit.borough(x, "stand;stand;stand;stand;stand;stand;stray 30");
        for (int h = 0; h < 8; h++) {
            Kit.borough(x, "heap " + (3 + h) + " want abcdef slip fedcba habit " + h % 4 + " price 9");
        }
        Kit.law(x, "give 2 if place + year > 3; give 1 if last or paid; void if first > 4");
    }

    /** Objects and arrays, and all their fields and elements. */
    private static void held(String what, Object root) throws Exception {
        Set<Object> seen = Collections.newSetFromMap(new IdentityHashMap<>());
        Deque<Object> open = new ArrayDeque<>();
        open.add(root);
        seen.add(root);
        int parts = 0;
        while (!open.isEmpty()) {
            Object o = open.remove();
            if (o.getClass().isArray()) {
                parts += Array.getLength(o);
                for (int i = 0; !o.getClass().getComponentType().isPrimitive() && i < Array.getLength(o); i++) {
                    meet(Array.get(o, i), seen, open);
                }
                continue;
            }
            for (Field f : o.getClass().getDeclaredFields()) {
                if (!Modifier.isStatic(f.getModifiers())) {
                    parts++;
                    f.setAccessible(true);
                    meet(f.getType().isPrimitive() ? null : f.get(o), seen, open);
                }
            }
        }
        Kit.same(what + " holds " + seen.size() + " objects", true, seen.size() <= 500);
        Kit.same(what + " holds " + parts + " fields and elements", true, parts <= 16000);
    }

    private static void meet(Object o, Set<Object> seen, Deque<Object> open) {
        if (o != null && seen.add(o)) {
            open.add(o);
        }
    }

    interface Work {
        void call(SecondPlace x);
    }

    /** The least of some times, because the machine itself makes things when it first meets a call. */
    private static long madeBy(SecondPlace x, Work work) {
        long least = Long.MAX_VALUE;
        for (int i = 0; i < 5; i++) {
            long before = BEAN.getCurrentThreadAllocatedBytes();
            work.call(x);
            least = Math.min(least, BEAN.getCurrentThreadAllocatedBytes() - before);
        }
        return least;
    }

    private static void nothing(String what, SecondPlace x, Work work) {
        long idle = madeBy(x, y -> { });
        Kit.same(what + " makes", 0L, madeBy(x, work) - idle);
    }

    private static void questionsMakeNothing(SecondPlace x) {
        nothing("heap", x, y -> y.heap(2, 6));
        nothing("could", x, y -> y.heap(2, 7));
        nothing("points", x, y -> y.points(1));
        nothing("elected", x, SecondPlace::elected);
        nothing("writes", x, y -> y.writes(2, 2, 1));
        nothing("by", x, y -> y.by(4, true));
        nothing("champion", x, SecondPlace::champion);
        nothing("ring", x, SecondPlace::ring);
        nothing("least", x, y -> y.least(true));
        nothing("spoilers", x, SecondPlace::spoilers);
        nothing("twins", x, SecondPlace::twins);
        nothing("friends", x, y -> y.friends(3));
        nothing("cheapest", x, y -> y.cheapest(3, true));
        nothing("rests", x, SecondPlace::rests);
        nothing("best", x, y -> y.best(1, 1));
        nothing("ahead", x, y -> y.ahead(40));
        nothing("settles", x, SecondPlace::settles);
        nothing("round", x, SecondPlace::round);
        nothing("laws", x, y -> y.laws(false));
        nothing("samples", x, y -> y.samples(4, false));
        nothing("trial", x, y -> y.trial(40, false));
        nothing("span", x, y -> y.span(40, true));
        nothing("led", x, y -> y.led(1, true));
        nothing("count", x, y -> y.count(8));
    }

    private static void actsMakeNothing(SecondPlace x) {
        nothing("years", x, y -> y.years(60));
        nothing("habit", x, y -> y.habit(1, 2));
        nothing("want", x, y -> y.want(1, 0, 5));
        nothing("pay", x, y -> {
            y.pay(1, 0);
            y.undo();
        });
        nothing("image", x, SecondPlace::image);
        nothing("back", x, SecondPlace::back);
        nothing("leave", x, y -> {
            y.leave(1);
            y.undo();
        });
        nothing("feed", x, y -> {
            y.feed(0x00010203, 0x04050000, 0, 0, 0);
            y.end(6);
            y.write(3);
        });
        nothing("borough", x, y -> {
            y.feed(0x73747261, 0x79203330, 0, 0, 0);
            y.end(8);
            y.borough();
            y.back();
        });
    }

    /** A law is an object and three rows, none longer than the text. */
    private static void lawsMakeLittle(SecondPlace x) {
        Kit.feedText(x, "");
        StringBuilder text = new StringBuilder("give 1 if 1");
        while (text.length() < 395) {
            text.append("+1");
        }
        Kit.same("the longest law", 1, Kit.law(x, text.append("<2").toString()));
        int[] n = {0x67697665, 0x20312069, 0x6620706C, 0x6163653C, 0x31000000};
        long made = madeBy(x, y -> {
            y.feed(n[0], n[1], n[2], n[3], n[4]);
            y.end(17);
            y.law();
        });
        Kit.same("a law makes " + made + " bytes", true, made > 0 && made < 400);
    }
}
