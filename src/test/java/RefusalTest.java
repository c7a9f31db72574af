import java.util.NoSuchElementException;
import java.util.function.Consumer;
import java.util.function.ToIntFunction;

/**
 * "Of several exceptions the one told first is thrown; a call that throws changes nothing but the TAPE, where it is used
 * up, and fault(), where a text is read": each refused call of the face on an object that has something of everything,
 * held against another such object that was never asked.
 */
public final class RefusalTest {
    private static final Class<?> OUT = IndexOutOfBoundsException.class;
    private static final Class<?> NO = IllegalArgumentException.class;
    private static final Class<?> PAID = IllegalStateException.class;
    private static final Class<?> NOT = NoSuchElementException.class;
    private static final int LOW = Integer.MIN_VALUE;
    private static final int HIGH = Integer.MAX_VALUE;
    private static final int[] NOBODY = {-1, 3, 4, 6, 8, LOW, HIGH};
    private static final int[] NO_HEAP = {-1, 2, 3, 8, 9, LOW, HIGH};

    public static void main(String[] args) {
        heapAndPlace();
        pointsAndGives();
        habit();
        leaveAndPay();
        want();
        years();
        writes();
        byAndBeats();
        ofOne();
        ofHeap();
        numbers();
        log();
        texts();
        write();
        Kit.finish();
    }

    /** Three STANDING, two HEAPS (the second one PAID), a law, rows of the log, two acts, an image, a fault, a slip on the tape. */
    private static SecondPlace full() {
        SecondPlace x = Kit.told("stand;stand;stand;heap 3 want abc slip acb habit 1 price 7;"
            + "heap 2 want cab slip cba habit 2 price 5;stray 30", "give 2 if place<1;give 3 if place>0 and place<2;void if paid and one<1");
        x.years(2);
        x.image();
        Kit.law(x, "give 1 if last;give 2 if paid;give 1 if one+place<2");
        x.years(1);
        x.pay(1, 0);
        Kit.law(x, "give 1 if last;give 2 if paid;give 1 if one+place<2 and year<9");
        x.habit(0, 3);
        x.want(0, 1, 2);
        Kit.law(x, "give 1;x");
        Kit.feedBytes(x, new byte[] {1, 2, 0});
        return x;
    }

    /** The tape's bytes come out as a slip; then acts are undone, and the image gone back to. */
    private static String allOf(SecondPlace x) {
        StringBuilder s = new StringBuilder();
        s.append(x.end(4)).append(x.end(3)).append(Kit.answer(() -> x.write(0)));
        s.append('\n').append(Kit.state(x));
        for (int i = 0; i < 4; i++) {
            s.append('\n').append(x.undo()).append(Kit.state(x));
        }
        return s.append('\n').append(x.back()).append(Kit.state(x)).toString();
    }

    private static Object thrownBy(SecondPlace x, ToIntFunction<SecondPlace> call) {
        try {
            return call.applyAsInt(x);
        } catch (RuntimeException e) {
            return e.getClass();
        }
    }

    private static int told(boolean b) {
        return b ? 1 : 0;
    }

    private static void refused(String what, Class<?> due, ToIntFunction<SecondPlace> call) {
        SecondPlace x = full();
        Kit.same(what, due, thrownBy(x, call));
        Kit.same(what + ": fault stays", 7, x.fault());
        Kit.same(what + ": all stays", allOf(full()), allOf(x));
    }

    private static void heapAndPlace() {
        for (int heap : NO_HEAP) {
            refused("heap " + heap, OUT, x -> x.heap(heap, 0));
            refused("heap, and no such what, " + heap, OUT, x -> x.heap(heap, 8));
            refused("place " + heap, OUT, x -> x.place(heap, 0, true));
            refused("place, and none, " + heap, OUT, x -> x.place(heap, 3, false));
        }
        for (int what : new int[] {-1, 8, 9, LOW, HIGH}) {
            refused("heap what " + what, NOT, x -> x.heap(1, what));
        }
    }

    private static void pointsAndGives() {
        for (int one : NOBODY) {
            refused("points " + one, OUT, x -> x.points(one));
            refused("gives to " + one, OUT, x -> x.gives(1, one));
        }
        for (int heap : NO_HEAP) {
            refused("gives of " + heap, OUT, x -> x.gives(heap, 0));
            refused("gives of and to none, " + heap, OUT, x -> x.gives(heap, 3));
        }
    }

    private static void habit() {
        for (int n : new int[] {-1, 4, LOW, HIGH}) {
            refused("habit " + n, NO, x -> x.habit(0, n));
            refused("habit " + n + " of no heap", OUT, x -> x.habit(2, n));
        }
        for (int heap : NO_HEAP) {
            refused("habit of " + heap, OUT, x -> x.habit(heap, 0));
        }
    }

    private static void leaveAndPay() {
        for (int one : NOBODY) {
            refused("leave " + one, OUT, x -> x.leave(one));
            refused("pay for " + one, OUT, x -> x.pay(0, one));
            refused("pay one that is paid for " + one, OUT, x -> x.pay(1, one));
        }
        for (int heap : NO_HEAP) {
            refused("pay " + heap, OUT, x -> x.pay(heap, 0));
        }
        refused("pay again for the same", PAID, x -> x.pay(1, 0));
        refused("pay again for another", PAID, x -> x.pay(1, 2));
    }

    private static void want() {
        for (int heap : NO_HEAP) {
            refused("want of " + heap, OUT, x -> x.want(heap, 0, 1));
            refused("want of and at none, " + heap, OUT, x -> x.want(heap, 0, 3));
        }
        for (int place : NOBODY) {
            refused("want first " + place, NO, x -> x.want(0, place, 1));
            refused("want other " + place, NO, x -> x.want(0, 1, place));
            refused("want both " + place, NO, x -> x.want(0, place, place));
        }
        for (int place = 0; place < 3; place++) {
            int one = place;
            refused("want one place " + place, NO, x -> x.want(0, one, one));
        }
    }

    private static void years() {
        for (int n : new int[] {0, -1, 61, LOW, HIGH}) {
            refused("years " + n, NO, x -> x.years(n));
        }
    }

    private static void writes() {
        for (int heap : NO_HEAP) {
            refused("writes of " + heap, OUT, x -> x.writes(heap, 0, 0));
            refused("writes of none by none, " + heap, OUT, x -> x.writes(heap, 4, 0));
        }
        for (int habit : new int[] {-1, 4, LOW, HIGH}) {
            refused("writes by " + habit, NO, x -> x.writes(0, habit, 0));
            refused("writes by " + habit + " at no place", NO, x -> x.writes(0, habit, 3));
        }
    }

    private static void byAndBeats() {
        for (int law : new int[] {-1, 6, LOW, HIGH}) {
            refused("by " + law, OUT, x -> x.by(law, true));
            refused("by " + law + " on slips", OUT, x -> x.by(law, false));
        }
        for (int one : NOBODY) {
            refused("beats, one " + one, OUT, x -> told(x.beats(one, 0)));
            refused("beats, other " + one, OUT, x -> told(x.beats(0, one)));
            refused("beats, both " + one, OUT, x -> told(x.beats(one, one)));
            refused("over, one " + one, OUT, x -> x.over(one, 0));
            refused("over, other " + one, OUT, x -> x.over(0, one));
            refused("over, both " + one, OUT, x -> x.over(one, one));
        }
        for (int one = 0; one < 3; one++) {
            int both = one;
            refused("beats itself " + one, NO, x -> told(x.beats(both, both)));
            refused("over itself " + one, NO, x -> x.over(both, both));
        }
    }

    private static void ofOne() {
        for (int one : NOBODY) {
            refused("harm of " + one, OUT, x -> x.harm(one));
            refused("friends of " + one, OUT, x -> x.friends(one));
            refused("cheapest for " + one, OUT, x -> x.cheapest(one, false));
            refused("how much for " + one, OUT, x -> x.cheapest(one, true));
            refused("bought for " + one, OUT, x -> x.bought(one));
            refused("led by " + one, OUT, x -> x.led(one, false));
            refused("year led by " + one, OUT, x -> x.led(one, true));
        }
    }

    private static void ofHeap() {
        for (int heap : NO_HEAP) {
            refused("gains of " + heap, OUT, x -> told(x.gains(heap)));
            refused("best of " + heap, OUT, x -> x.best(heap, 0));
            refused("best of " + heap + " at no place", OUT, x -> x.best(heap, 3));
        }
    }

    private static void numbers() {
        for (int n : new int[] {-1, 41, 60, LOW, HIGH}) {
            refused("ahead " + n, NO, x -> x.ahead(n));
            refused("trial " + n, NO, x -> x.trial(n, false));
            refused("changes of trial " + n, NO, x -> x.trial(n, true));
            refused("span " + n, NO, x -> x.span(n, false));
            refused("most of span " + n, NO, x -> x.span(n, true));
        }
        for (int k : new int[] {0, -1, 9, LOW, HIGH}) {
            refused("samples " + k, NO, x -> x.samples(k, false));
            refused("all samples " + k, NO, x -> x.samples(k, true));
        }
    }

    private static void log() {
        for (int what : new int[] {-1, 4, 5, LOW, HIGH}) {
            refused("log what " + what, NOT, x -> x.log(0, what));
            refused("log what " + what + " of no row", NOT, x -> x.log(60, what));
            refused("log what " + what + " of a row to come", NOT, x -> x.log(-1, what));
        }
    }

    /** Both begin with what is on the tape; the one that was refused has used it up, the other one cuts it off. */
    private static void usedUp(String what, int fault, Class<?> due, Consumer<SecondPlace> tape, ToIntFunction<SecondPlace> call) {
        SecondPlace x = full();
        tape.accept(x);
        Kit.same(what, due, thrownBy(x, call));
        Kit.same(what + ": fault", fault, x.fault());
        Kit.same(what + ": the tape is used up", false, x.end(1));
        SecondPlace other = full();
        other.end(0);
        Kit.same(what + ": all else stays", allOf(other), allOf(x));
    }

    private static void texts() {
        usedUp("bytes that are no text", 0, NO, x -> { }, x -> x.borough());
        usedUp("bytes that are no law", 0, NO, x -> { }, x -> x.law());
        usedUp("a borough wrong late", 65, NO, x -> Kit.feedText(x, "stand;heap 20 want dabc slip abcd habit 3 price 99;stray 9;stand;now"),
            x -> x.borough());
        usedUp("a borough that lacks its end", 57, NO, x -> Kit.feedText(x, "stand;heap 20 want dabc slip abcd habit 3 price 99;stray "),
            x -> x.borough());
        usedUp("a law wrong late", 27, NO, x -> Kit.feedText(x, "give 20 if year>0;void;give"), x -> x.law());
    }

    private static void write() {
        for (int heap : NO_HEAP) {
            usedUp("write " + heap, 7, OUT, x -> { }, x -> x.write(heap));
            usedUp("write nothing " + heap, 7, OUT, x -> x.end(0), x -> x.write(heap));
        }
        byte[][] wrong = {{}, {0}, {0, 1}, {0, 1, 2, 3}, {0, 1, 2, 0}, {0, 1, 1}, {2, 2, 2}, {1, 2, 3}, {0, 1, -1}, {0, -128, 2},
            {0, 1, 34}, {97, 98, 99}, {48, 49, 50}, {0, 1, 2, 2}};
        for (byte[] order : wrong) {
            usedUp("write no order of " + order.length, 7, NO, x -> Kit.feedBytes(x, order), x -> x.write(0));
        }
        SecondPlace x = full();
        x.feed(0, 0, 0, 0, 0);
        Kit.same("write behind which more stands", NO, thrownBy(x, y -> y.write(0)));
    }
}
