/** The answers with nobody STANDING, with no HEAP, with one STANDING alone, with no MAYOR, of every promise that has such. */
public final class EmptyTest {
    private static final String OUT = "IndexOutOfBoundsException";
    private static final String NO = "IllegalArgumentException";

    private static String when = "";
    private static SecondPlace x = new SecondPlace();

    public static void main(String[] args) {
        newObject();
        nobodyButHeaps();
        nobodyYears();
        nobodyComesBack();
        standingButNoHeap();
        standingButNoHeapYears();
        aloneWithHeaps();
        aloneByLaw();
        aloneYears();
        aloneWithoutHeap();
        two();
        noMayor();
        mayorLeaves();
        oneHeap();
        Kit.finish();
    }

    private static void due(Object answer, String name, Object... args) {
        Kit.asked(when, x, answer, name, args);
    }

    private static void counts(int... due) {
        for (int what = 0; what < due.length; what++) {
            due(due[what], "count", what);
        }
    }

    private static void start(String told, SecondPlace from) {
        when = told;
        x = from;
    }

    /** What nobody STANDING means, whether there are HEAPS or not. */
    private static void nobody() {
        due(-1, "elected");
        for (int law = 0; law < 6; law++) {
            due(-1, "by", law, false);
            due(-1, "by", law, true);
        }
        due(OUT, "by", 6, false);
        for (String name : new String[] {"points", "leave", "harm", "friends", "bought"}) {
            due(OUT, name, 0);
            due(OUT, name, -1);
        }
        for (String name : new String[] {"cheapest", "led"}) {
            due(OUT, name, 0, false);
            due(OUT, name, 0, true);
        }
        due(OUT, "beats", 0, 1);
        due(OUT, "beats", 0, 0);
        due(OUT, "over", 0, 1);
        due(OUT, "over", 0, 0);
        due(OUT, "gives", 0, 0);
        due(OUT, "pay", 0, 0);
        due(-1, "champion");
        due(0, "ring");
        due(-1, "worst");
        due(-1, "least", false);
        due(0, "least", true);
        due(0, "spoilers");
        due(0, "twins");
        due(true, "rests");
        due(-1, "ahead", 0);
        due(-1, "ahead", 1);
        due(-1, "ahead", 40);
        due(0, "settles");
        due(1, "round");
        due(0, "laws", false);
        due(0, "laws", true);
        due(0, "margin");
        due(-1, "trial", 0, false);
        due(0, "trial", 0, true);
        due(-1, "trial", 40, false);
        due(0, "trial", 40, true);
        due(0, "span", 0, false);
        due(0, "span", 40, false);
        due(0, "span", 40, true);
        due(0, "count", 8);
    }

    /** "A borough without anybody." */
    private static void newObject() {
        start("new", new SecondPlace());
        counts(0, 0, 0, -1, 0, -1, 0, 0, 0, 0, 0);
        due(-1, "fault");
        nobody();
        for (String name : new String[] {"gains", "write"}) {
            due(OUT, name, 0);
        }
        for (String name : new String[] {"heap", "habit", "best"}) {
            due(OUT, name, 0, 0);
        }
        due(OUT, "place", 0, 0, true);
        due(OUT, "want", 0, 0, 1);
        due(OUT, "writes", 0, 0, 0);
        for (int k = 1; k <= 8; k++) {
            due(0, "samples", k, false);
            due(0, "samples", k, true);
        }
        due(-99, "log", 0, 0);
        due(-99, "log", 0, 3);
        due(false, "undo");
        due(false, "back");
        due(1, "seed", 1);
        counts(0, 0, 0, -1, 0, -1, 0, 0, 0, 0, 0);
    }

    private static SecondPlace left(String law) {
        SecondPlace y = Kit.told("stand;stand;heap 4 want ab slip ba habit 2 price 6;heap 3 want ba slip ab habit 1 price 5;stray 100", law);
        y.years(1);
        y.leave(1);
        y.leave(0);
        return y;
    }

    private static void nobodyButHeaps() {
        for (String law : new String[] {"give 1", "void", "void if last;give 2 if place<1", ""}) {
            start("all have left, law " + law, left(law));
            due(0, "count", 0);
            due(2, "count", 1);
            due(-1, "count", 5);
            due(7, "count", 7);
            nobody();
            int[] heap = {4, 2, 6, 0, 0, 0, 7, 0};
            for (int what = 0; what < heap.length; what++) {
                due(heap[what], "heap", 0, what);
            }
            due("NoSuchElementException", "heap", 0, 8);
            due(OUT, "heap", 2, 0);
            for (int place = -1; place <= 1; place++) {
                due(-1, "place", 0, place, false);
                due(-1, "place", 1, place, true);
                due(-1, "best", 0, place);
                for (int habit = 0; habit < 4; habit++) {
                    due(-1, "writes", 0, habit, place);
                }
            }
            due(NO, "writes", 0, 4, 0);
            due(NO, "want", 0, 0, 1);
            due(NO, "want", 0, 0, 0);
            due(false, "gains", 0);
            due(false, "gains", 1);
            due(2, "samples", 1, true);
            due(1, "samples", 2, true);
            due(0, "samples", 3, true);
        }
    }

    private static void nobodyYears() {
        start("all have left", left("give 1"));
        int acts = x.count(10);
        due(2, "habit", 0, 3);
        x.end(0);
        due(0, "write", 0);
        Kit.same("a slip of nobody is an act, too", acts + 2, x.count(10));
        Kit.feedBytes(x, new byte[] {0});
        due(NO, "write", 0);
        due(false, "end", 1);
        due(1, "count", 9);
        due(0, "years", 2);
        due(3, "count", 4);
        due(3, "count", 9);
        due(-1, "count", 5);
        int[] row = {2, -1, 0, 0};
        for (int what = 0; what < 4; what++) {
            due(row[what], "log", 0, what);
        }
        // The heaps draw, though there is nothing to turn about: two in the year of two, four in these.
        int seed = 1;
        for (int i = 0; i < 6; i++) {
            seed = 1103515245 * seed + 12345;
        }
        due(seed, "seed", 0);
    }

    /** "stand: one more is STANDING, the last one in each WANT and SLIP that there is". */
    private static void nobodyComesBack() {
        start("one comes back", left("give 1 if last"));
        due(2, "count", 1);
        Kit.same("a text", 2, Kit.borough(x, "stand"));
        due(0, "place", 0, 0, true);
        due(0, "place", 1, 0, false);
        due(-1, "place", 0, 1, true);
        due(7, "points", 0);
        Kit.same("another text", 3, Kit.borough(x, "stand;stand"));
        for (int heap = 0; heap < 2; heap++) {
            for (int place = 0; place < 3; place++) {
                due(place, "place", heap, place, true);
                due(place, "place", heap, place, false);
            }
        }
        due(2, "elected");
        due(-1, "count", 5);
    }

    private static void standingButNoHeap() {
        for (String law : new String[] {null, "give 1", "void", ""}) {
            start("three and no heap, law " + law, law == null ? Kit.told("stand;stand;stand") : Kit.told("stand;stand;stand", law));
            counts(3, 0, 1, law == null ? -1 : law.isEmpty() ? 0 : 1, 0, -1, 0, 0, 0, 0, 0);
            due(0, "elected");
            due(0, "worst");
            due(0, "least", false);
            due(0, "least", true);
            due(0, "margin");
            due(0, "spoilers");
            due(3, "twins");
            due(-1, "champion");
            due(0, "ring");
            due(true, "rests");
            due(0, "settles");
            due(1, "round");
            due(63, "laws", false);
            due(0, "laws", true);
            for (int one = 0; one < 3; one++) {
                due(0, "points", one);
                due(0, "harm", one);
                due(0, "bought", one);
                due(one == 0 ? 0 : -1, "friends", one);
                due(one == 0 ? 0 : -1, "cheapest", one, false);
                due(one == 0 ? 0 : -1, "cheapest", one, true);
                due(false, "beats", one, (one + 1) % 3);
                due(0, "over", one, (one + 1) % 3);
                due(0, "led", one, false);
                due(-1, "led", one, true);
            }
            due(OUT, "points", 3);
            for (int number = 0; number < 6; number++) {
                due(0, "by", number, false);
                due(0, "by", number, true);
            }
            for (int k = 1; k <= 8; k++) {
                due(0, "samples", k, false);
                due(0, "samples", k, true);
            }
            due(OUT, "heap", 0, 0);
            due(OUT, "place", 0, 0, true);
            due(OUT, "gives", 0, 0);
            due(OUT, "pay", 0, 0);
            due(OUT, "want", 0, 0, 1);
            due(OUT, "writes", 0, 0, 0);
            due(OUT, "gains", 0);
            due(OUT, "best", 0, 0);
            due(OUT, "habit", 0, 0);
            Kit.same("no heap to write", OUT, Kit.write(x, 0, 0, 1, 2));
        }
        start("six and no heap", Kit.told("stand;stand;stand;stand;stand;stand"));
        due(15, "twins");
    }

    private static void standingButNoHeapYears() {
        start("three and no heap", Kit.told("stand;stand;stand;stray 100"));
        due(-1, "ahead", 0);
        due(0, "ahead", 1);
        due(0, "trial", 1, false);
        due(1, "trial", 40, true);
        due(0, "span", 0, true);
        due(1, "span", 40, false);
        due(1, "span", 1, true);
        due(1, "years", 3);
        int[] row = {2, 0, 0, 0};
        for (int what = 0; what < 4; what++) {
            due(row[what], "log", 0, what);
        }
        due(3, "led", 0, false);
        due(1, "seed", 1);
        due(2, "leave", 0);
        due(-1, "count", 5);
        due(1, "years", 1);
        due(0, "count", 5);
    }

    private static void alone() {
        due(0, "elected");
        due(0, "champion");
        due(0, "worst");
        due(0, "harm", 0);
        due(0, "least", false);
        due(0, "least", true);
        due(0, "ring");
        due(0, "twins");
        due(0, "spoilers");
        due(0, "friends", 0);
        due(0, "cheapest", 0, false);
        due(0, "cheapest", 0, true);
        due(true, "rests");
        due(0, "bought", 0);
        due(63, "laws", false);
        due(63, "laws", true);
        due(0, "settles");
        due(1, "round");
        due(OUT, "points", 1);
        due(OUT, "beats", 0, 1);
        due(OUT, "over", 0, 1);
        due(NO, "beats", 0, 0);
        due(NO, "over", 0, 0);
        for (int law = 0; law < 6; law++) {
            due(0, "by", law, false);
            due(0, "by", law, true);
        }
    }

    /** "Without a text: MANY at place 1 (without a place 1: nothing)"; "who is alone, too"; "With fewer than two 1 and 2 are as 0". */
    private static void aloneWithHeaps() {
        start("alone", Kit.told("stand;heap 4 want a slip a habit 1 price 6;heap 2 want a slip a habit 2 price 1;stray 100"));
        alone();
        due(0, "points", 0);
        due(0, "gives", 1, 0);
        due(0, "margin");
        int[] heap = {4, 1, 6, 0, 0, 0, 7, 1};
        for (int what = 0; what < heap.length; what++) {
            due(heap[what], "heap", 0, what);
        }
        for (int habit = 0; habit < 4; habit++) {
            due(0, "writes", 0, habit, 0);
            due(-1, "writes", 0, habit, 1);
        }
        due(0, "best", 0, 0);
        due(-1, "best", 0, 1);
        due(false, "gains", 0);
        due(NO, "want", 0, 0, 0);
        due(NO, "want", 0, 0, 1);
        due(2, "samples", 1, false);
        due(2, "samples", 1, true);
        due(1, "samples", 2, false);
        due(0, "samples", 3, true);
        Kit.same("a slip of one", 0, Kit.write(x, 0, 0));
        Kit.same("is an act", 1, x.count(10));
        Kit.same("no slip of none", NO, Kit.write(x, 0));
        Kit.same("no slip of two", NO, Kit.write(x, 0, 0, 1));
    }

    private static void aloneByLaw() {
        start("alone by a law", Kit.told("stand;heap 4 want a slip a price 6;heap 2 want a slip a price 1",
            "give 3 if last and place<1;give 4 if paid;void if many>3 and not paid"));
        alone();
        due(1, "count", 8);
        due(6, "points", 0);
        due(6, "margin");
        due(0, "gives", 0, 0);
        due(1, "heap", 0, 7);
        // "with one STANDING alone the SLIP stays"; "it is PAID".
        due(24, "pay", 0, 0);
        due(0, "place", 0, 0, false);
        due(1, "heap", 0, 3);
        due(28, "gives", 0, 0);
        due(34, "margin");
        due(0, "count", 8);
        due("IllegalStateException", "pay", 0, 0);
    }

    private static void aloneYears() {
        start("alone in years", Kit.told("stand;heap 4 want a slip a habit 2 price 6;stray 100", "give 3"));
        due(0, "ahead", 1);
        due(1, "trial", 40, true);
        due(1, "span", 40, true);
        due(1, "years", 60);
        int[] row = {59, 0, 12, 0};
        for (int what = 0; what < 4; what++) {
            due(row[what], "log", 0, what);
        }
        due(60, "led", 0, false);
        due(59, "led", 0, true);
        due(0, "leave", 0);
        due(OUT, "led", 0, false);
        due(0, "log", 0, 1);
        due(-1, "count", 5);
    }

    private static void aloneWithoutHeap() {
        start("alone without a heap", Kit.told("stand"));
        alone();
        due(0, "points", 0);
        due(0, "margin");
        due(0, "samples", 1, true);
    }

    /** With two STANDING place 1 is the last one, too. */
    private static void two() {
        start("two", Kit.told("stand;stand;heap 4 want ab slip ab price 6"));
        due(1, "elected");
        due(4, "margin");
        due(1, "twins");
        due(0, "champion");
        due(0, "ring");
        due(0, "spoilers");
        due(0, "by", 0, false);
        due(1, "by", 1, false);
        due(0, "by", 2, false);
        due(0, "by", 3, false);
        due(0, "by", 4, false);
        due(0, "by", 5, false);
        due(1, "worst");
        due(4, "least", true);
        due(true, "gains", 0);
        due(1, "best", 0, 0);
        due(0, "best", 0, 1);
        due(1, "writes", 0, 1, 0);
        due(0, "writes", 0, 1, 1);
        due(1, "writes", 0, 2, 0);
        due(24, "pay", 0, 0);
        due(1, "place", 0, 0, false);
        due(0, "elected");
    }

    /** "MAYOR: none at first"; "one where there was none, too". */
    private static void noMayor() {
        start("no mayor", Kit.told("stand;stand;heap 4 want ab slip ab price 6"));
        due(-1, "count", 5);
        due(-1, "ahead", 0);
        due(-1, "trial", 0, false);
        due(0, "trial", 0, true);
        due(0, "span", 0, false);
        due(0, "span", 0, true);
        due(1, "elected");
        due(1, "ahead", 1);
        due(1, "trial", 1, true);
        due(1, "span", 1, false);
        due(0, "led", 1, false);
        due(-1, "led", 1, true);
        due(1, "years", 1);
        due(1, "count", 5);
        due(1, "ahead", 0);
        due(1, "trial", 0, false);
        due(0, "trial", 1, true);
        due(0, "span", 40, true);
        due(0, "years", 60);
    }

    /** "MAYOR, too: none, if it was that one; THE LOG stays as it is". */
    private static void mayorLeaves() {
        start("the mayor leaves", Kit.told("stand;stand;stand;heap 4 want abc slip acb habit 3 price 6"));
        due(1, "years", 1);
        due(2, "count", 5);
        due(2, "leave", 2);
        due(-1, "count", 5);
        due(-1, "trial", 0, false);
        due(2, "log", 0, 1);
        due(OUT, "led", 2, false);
        due(0, "led", 1, false);
        due(1, "years", 1);
        due(1, "count", 5);
        due(1, "led", 1, false);
        due(1, "led", 1, true);
        due(true, "undo");
        due(true, "undo");
        due(2, "count", 5);
        due(2, "leave", 0);
        due(1, "count", 5);
        due(2, "log", 0, 1);
        due(0, "led", 1, false);
        due(1, "leave", 0);
        due(0, "count", 5);
        due(0, "leave", 0);
        due(-1, "count", 5);
    }

    /** "SAMPLES of K HEAPS (1 to 8)" of one HEAP; one that is last in all, first in all. */
    private static void oneHeap() {
        start("one heap", Kit.told("stand;stand;stand;heap 4 want abc slip abc price 6"));
        due(1, "samples", 1, false);
        due(1, "samples", 1, true);
        due(0, "samples", 2, false);
        due(0, "samples", 2, true);
        due(0, "samples", 8, true);
        due(NO, "samples", 9, true);
        due(2, "twins");
        due(7, "heap", 0, 7);
        due(1, "friends", 2);
        due(24, "cheapest", 2, true);
        due(0, "friends", 1);
    }
}
