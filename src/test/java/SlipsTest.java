/** Promises 7 to 11 and 18: heaps, places, points, what a slip gives, who is elected, what a habit writes. */
public final class SlipsTest {
    private static final String OUT = "IndexOutOfBoundsException";

    public static void main(String[] args) {
        heap();
        place();
        pointsAndGives();
        elected();
        writes();
        shrewdHabit();
        could();
        asTheyAreByThen();
        Kit.finish();
    }

    private static void heap() {
        SecondPlace x = Kit.told("stand;stand;stand;heap 5 want abc slip cab habit 2 price 9;heap 2 want bac slip bac price 4");
        int[] due = {5, 2, 9, 0, 0, 3, 6, 7};
        for (int what = 0; what < due.length; what++) {
            Kit.same("heap 0 what " + what, due[what], x.heap(0, what));
        }
        Kit.same("lies of none", 0, x.heap(1, 5));
        Kit.same("fits of the want", 1, x.heap(1, 6));
        x.pay(1, 2);
        Kit.same("paid", 1, x.heap(1, 3));
        Kit.law(x, "void if paid");
        Kit.same("void", "0 1", x.heap(0, 4) + " " + x.heap(1, 4));
        Kit.law(x, "void if year>0 or standing<3 and many>2");
        Kit.same("not yet", "0 0", x.heap(0, 4) + " " + x.heap(1, 4));
        x.leave(0);
        Kit.same("of two heap 0", "1 0", x.heap(0, 4) + " " + x.heap(1, 4));
        x.undo();
        x.years(1);
        Kit.same("a year later", "1 1", x.heap(0, 4) + " " + x.heap(1, 4));
        x.undo();
        Kit.same("not yet again", 0, x.count(8));
        Kit.law(x, "void if paid");
        Kit.due("no such heap", OUT, () -> x.heap(2, 0));
        Kit.due("heap below 0", OUT, () -> x.heap(-1, 0));
        Kit.due("heap told first", OUT, () -> x.heap(2, 8));
        Kit.due("another what", "NoSuchElementException", () -> x.heap(0, 8));
        Kit.due("what below 0", "NoSuchElementException", () -> x.heap(1, -1));
        alone(x);
    }

    private static void alone(SecondPlace x) {
        x.leave(2);
        x.leave(1);
        Kit.same("alone all habits fit", 7, x.heap(0, 6));
        Kit.same("alone it could be that one", 1, x.heap(0, 7));
        Kit.same("alone it can be void", "0 1", x.heap(0, 4) + " " + x.heap(1, 4));
        x.leave(0);
        Kit.same("nobody could be", 0, x.heap(0, 7));
        Kit.same("nobody: no lies", 0, x.heap(0, 5));
        Kit.same("nobody: not void", 0, x.heap(1, 4));
    }

    private static void place() {
        SecondPlace x = Kit.told("stand;stand;stand;heap 5 want abc slip cab price 9");
        Kit.same("slip", "2 0 1", x.place(0, 0, false) + " " + x.place(0, 1, false) + " " + x.place(0, 2, false));
        Kit.same("want", "0 1 2", x.place(0, 0, true) + " " + x.place(0, 1, true) + " " + x.place(0, 2, true));
        Kit.same("behind", -1, x.place(0, 3, false));
        Kit.same("ahead", -1, x.place(0, -1, true));
        Kit.same("far", -1, x.place(0, Integer.MAX_VALUE, true));
        Kit.due("no such heap", OUT, () -> x.place(1, 0, true));
        Kit.due("below 0", OUT, () -> x.place(-1, 9, true));
    }

    private static void pointsAndGives() {
        SecondPlace x = Kit.told("stand;stand;stand;heap 5 want abc slip cab price 9;heap 3 want bca slip bca price 1");
        Kit.same("points", "5 0 3", x.points(0) + " " + x.points(1) + " " + x.points(2));
        Kit.same("gives", "5 0 0 3", x.gives(0, 0) + " " + x.gives(0, 1) + " " + x.gives(1, 0) + " " + x.gives(1, 2));
        Kit.law(x, "give 7 if place<1;give 2 if last;give 1 if place<1 and one>1;void if first>0 and first<2");
        Kit.same("a void slip gives nothing", "0 0 0", x.gives(1, 0) + " " + x.gives(1, 1) + " " + x.gives(1, 2));
        Kit.same("the other one gives", "0 10 40", x.points(0) + " " + x.points(1) + " " + x.points(2));
        Kit.same("only that one is void", "0 1 2", x.heap(0, 4) + " " + x.heap(1, 4) + " " + x.count(8));
        Kit.law(x, "give 1;void if place>0");
        Kit.same("void asks who is first", "8 8 8", x.points(0) + " " + x.points(1) + " " + x.points(2));
        Kit.law(x, "void;give 1");
        Kit.same("all void", "0 3", x.points(0) + " " + x.count(8));
        Kit.due("points of nobody", OUT, () -> x.points(3));
        Kit.due("points below 0", OUT, () -> x.points(-1));
        Kit.due("gives of no heap", OUT, () -> x.gives(2, 0));
        Kit.due("gives nobody", OUT, () -> x.gives(0, 3));
        x.leave(2);
        x.leave(1);
        Kit.law(x, "give 1 if last;void if standing>1");
        Kit.same("alone one is last", 8, x.points(0));
        SecondPlace y = Kit.told("stand;heap 5 want a slip a price 9");
        Kit.same("no place 1 gives nothing", 0, y.points(0));
    }

    private static void elected() {
        SecondPlace x = Kit.told("stand;stand;stand");
        Kit.same("of several the least", 0, x.elected());
        Kit.borough(x, "heap 2 want abc slip acb price 1;heap 2 want abc slip cba price 1");
        Kit.same("most, least of several", 1, x.elected());
        Kit.borough(x, "heap 1 want abc slip acb price 1");
        Kit.same("the most", 2, x.elected());
        Kit.same("nobody", -1, new SecondPlace().elected());
    }

    private static String written(SecondPlace x, int heap, int habit) {
        StringBuilder s = new StringBuilder();
        for (int p = 0; x.writes(heap, habit, p) != -1; p++) {
            s.append((char) ('a' + x.writes(heap, habit, p)));
        }
        return s.toString();
    }

    private static void writes() {
        SecondPlace x = Kit.told("stand;stand;stand;stand;heap 5 want bdac slip dcab price 9");
        Kit.same("its want", "bdac", written(x, 0, 0));
        Kit.same("least first, most second", "cbda", written(x, 0, 1));
        Kit.same("as it is", "dcab", written(x, 0, 3));
        Kit.same("nothing stays", "dcab", Kit.order(x, 0, false));
        Kit.same("no act", 0, x.count(10));
        Kit.same("no place", "-1 -1", x.writes(0, 0, 4) + " " + x.writes(0, 2, -1));
        Kit.due("no heap", OUT, () -> x.writes(1, 0, 0));
        Kit.due("no heap first", OUT, () -> x.writes(1, 4, 0));
        Kit.due("no habit", "IllegalArgumentException", () -> x.writes(0, 4, 0));
        Kit.due("no habit below 0", "IllegalArgumentException", () -> x.writes(0, -1, 9));
        SecondPlace y = Kit.told("stand;heap 5 want a slip a price 9");
        Kit.same("alone", "a a a a", written(y, 0, 0) + " " + written(y, 0, 1) + " " + written(y, 0, 2) + " " + written(y, 0, 3));
        y.leave(0);
        Kit.same("nobody", "", written(y, 0, 1) + written(y, 0, 2));
    }

    private static void shrewdHabit() {
        // b and c have 3 each by the others: 2 voters more make either of them elected, a never.
        String others = "stand;stand;stand;heap 3 want abc slip abc price 1;heap 3 want abc slip acb price 1;";
        SecondPlace x = Kit.told(others + "heap 2 want acb slip abc price 1");
        Kit.same("a cannot, so c is put second", "bca", written(x, 2, 2));
        SecondPlace y = Kit.told(others + "heap 2 want cba slip abc price 1");
        Kit.same("most wanted second", "acb", written(y, 2, 2));
        // No slip changes who is elected: the most wanted one stands second.
        SecondPlace z = Kit.told(others + "heap 1 want bac slip abc price 1;heap 9 want abc slip abc price 1");
        Kit.same("all the same", "cba", written(z, 2, 2));
        // Place 0 gives here: c first elects c, whoever is second, unless second counts more.
        SecondPlace v = Kit.told("stand;stand;stand;stand;heap 1 want abcd slip abcd price 1", "give 2 if place<1;give 3 if place>0 and place<2 and one<2 and one>0");
        Kit.same("only b can be elected past d", "dbac", written(v, 0, 2));
        SecondPlace two = Kit.told("stand;stand;heap 1 want ab slip ab price 1");
        Kit.same("two", "ba ba", written(two, 0, 1) + " " + written(two, 0, 2));
    }

    private static void could() {
        SecondPlace x = Kit.told("stand;stand;stand;heap 3 want abc slip abc price 1;heap 2 want abc slip acb price 1");
        Kit.same("heap 0 could", 7, x.heap(0, 7));
        Kit.same("heap 1 could", 2, x.heap(1, 7));
        Kit.law(x, "void if one>1;give 1 if place<1");
        Kit.same("void slips count for nothing", 3, x.heap(0, 7));
        Kit.law(x, "give 1 if place<1 and not paid");
        x.pay(0, 1);
        Kit.same("paid as it is", 1, x.heap(0, 7));
    }

    /** last, standing, many, year, paid: a law holds by what is now, whatever was asked before. */
    private static void asTheyAreByThen() {
        SecondPlace x = Kit.told("stand;stand;stand;heap 4 want abc slip abc price 1", "give 1 if last;give 2 if standing<3");
        Kit.same("of three", "0 0 4", x.points(0) + " " + x.points(1) + " " + x.points(2));
        x.leave(2);
        Kit.same("of two", "8 12", x.points(0) + " " + x.points(1));
        x.undo();
        Kit.same("of three again", "0 0 4", x.points(0) + " " + x.points(1) + " " + x.points(2));
        Kit.law(x, "give 1 if year>0;give 2 if paid");
        Kit.same("year 0", 0, x.points(1));
        x.pay(0, 0);
        Kit.same("paid", 8, x.points(1));
        x.years(1);
        Kit.same("year 1", 4, x.points(1));
        x.pay(0, 0);
        Kit.same("both", 12, x.points(1));
        x.undo();
        x.undo();
        Kit.same("year 0, paid", 8, x.points(1));
        x.undo();
        Kit.same("year 0 again", 0, x.points(1));
        Kit.same("ahead by years", "0 0 1", x.points(2) + " " + x.count(4) + " " + (x.ahead(3) + 1));
        Kit.same("and still now", 0, x.points(2));
    }
}
