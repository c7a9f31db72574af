/** Promises 12 to 17 and 44 to 48: the acts, the log, the seed, acts undone and the image. */
public final class ActsTest {
    private static final String OUT = "IndexOutOfBoundsException";
    private static final String NO = "IllegalArgumentException";
    private static final String THREE = "stand;stand;stand;heap 5 want abc slip abc price 2;"
        + "heap 4 want bca slip bca habit 1 price 3;heap 3 want cab slip acb habit 2 price 1";

    public static void main(String[] args) {
        write();
        habit();
        leave();
        pay();
        payAgain();
        want();
        years();
        strayYears();
        straysAheadOfTheNext();
        yearsTogether();
        log();
        seed();
        undo();
        undoRows();
        undoLimit();
        image();
        Kit.finish();
    }

    private static void write() {
        SecondPlace x = Kit.told(THREE);
        Kit.same("all change", 3, Kit.write(x, 0, 1, 2, 0));
        Kit.same("two change", 2, Kit.write(x, 0, 2, 1, 0));
        Kit.same("none change", 0, Kit.write(x, 0, 2, 1, 0));
        Kit.same("the slip", "cba", Kit.order(x, 0, false));
        Kit.same("each is an act", 3, x.count(10));
        Kit.same("fewer", NO, Kit.write(x, 0, 0, 1));
        Kit.same("more", NO, Kit.write(x, 0, 0, 1, 2, 3));
        Kit.same("twice", NO, Kit.write(x, 0, 0, 1, 1));
        Kit.same("nobody", NO, Kit.write(x, 0, 0, 1, 3));
        Kit.same("far", NO, Kit.write(x, 0, 0, 255, 1));
        Kit.same("none", NO, Kit.write(x, 0));
        Kit.same("no heap", OUT, Kit.write(x, 3, 0, 1, 2));
        Kit.same("used up by no heap", false, x.end(1));
        Kit.same("no heap first", OUT, Kit.write(x, -1, 9));
        Kit.same("nothing changed", "cba 3", Kit.order(x, 0, false) + " " + x.count(10));
        Kit.same("fault is not touched", -1, x.fault());
        x.leave(0);
        x.leave(0);
        x.leave(0);
        Kit.same("an order of nobody", 0, Kit.write(x, 0));
        Kit.same("not of one", NO, Kit.write(x, 0, 0));
    }

    private static void habit() {
        SecondPlace x = Kit.told(THREE);
        Kit.same("was", 1, x.habit(1, 3));
        Kit.same("was then", 3, x.habit(1, 0));
        Kit.same("is", 0, x.heap(1, 1));
        Kit.due("no habit", NO, () -> x.habit(1, 4));
        Kit.due("below 0", NO, () -> x.habit(1, -1));
        Kit.due("no heap", OUT, () -> x.habit(3, 4));
        Kit.due("heap below 0", OUT, () -> x.habit(-1, 0));
        Kit.same("acts", 2, x.count(10));
    }

    private static void leave() {
        SecondPlace x = Kit.told(THREE);
        x.years(1);
        Kit.same("mayor", 1, x.count(5));
        Kit.same("a leaves", 2, x.leave(0));
        Kit.same("mayor has a number less", 0, x.count(5));
        Kit.same("wants", "ab ab ba", Kit.order(x, 0, true) + " " + Kit.order(x, 1, true) + " " + Kit.order(x, 2, true));
        Kit.same("slips", "ab ab ab", Kit.order(x, 0, false) + " " + Kit.order(x, 1, false) + " " + Kit.order(x, 2, false));
        Kit.same("the log stays", 1, x.log(0, 1));
        Kit.same("b, now a, leaves", 1, x.leave(0));
        Kit.same("no mayor", -1, x.count(5));
        Kit.same("nobody is left", 0, x.leave(0));
        Kit.due("nobody", OUT, () -> x.leave(0));
        Kit.due("below 0", OUT, () -> x.leave(-1));
        Kit.same("undone", true, x.undo() && x.undo() && x.undo());
        Kit.same("all are back", "3 1 abc", x.count(0) + " " + x.count(5) + " " + Kit.order(x, 0, true));
        x.leave(2);
        Kit.same("one behind the mayor left", 1, x.count(5));
    }

    private static void pay() {
        SecondPlace x = Kit.told(THREE);
        Kit.same("price times many", 12, x.pay(1, 2));
        Kit.same("least wanted first, that one second", "acb", Kit.order(x, 1, false));
        Kit.same("want stays", "bca", Kit.order(x, 1, true));
        Kit.same("paid", "0 1 0", x.heap(0, 3) + " " + x.heap(1, 3) + " " + x.heap(2, 3));
        Kit.due("again", "IllegalStateException", () -> x.pay(1, 0));
        Kit.due("no heap", OUT, () -> x.pay(3, 0));
        Kit.due("nobody", OUT, () -> x.pay(1, 3));
        Kit.same("for the least wanted: of all others", 10, x.pay(0, 2));
        Kit.same("the least of the others is first", "bca", Kit.order(x, 0, false));
        x.habit(1, 0);
        x.years(1);
        Kit.same("paid ones did not write", "bca acb", Kit.order(x, 0, false) + " " + Kit.order(x, 1, false));
        Kit.same("paid ends", "0 0", x.heap(0, 3) + " " + x.heap(1, 3));
        x.years(1);
        Kit.same("then they write", "abc bca", Kit.order(x, 0, false) + " " + Kit.order(x, 1, false));
        SecondPlace y = Kit.told("stand;stand;heap 20 want ab slip ab price 99");
        Kit.same("dear", 1980, y.pay(0, 0));
        Kit.same("of two", "ba", Kit.order(y, 0, false));
        SecondPlace z = Kit.told("stand;heap 1 want a slip a price 1");
        Kit.same("alone", 1, z.pay(0, 0));
        Kit.same("alone: slip stays, paid", "a 1", Kit.order(z, 0, false) + " " + z.heap(0, 3));
        SecondPlace v = Kit.told("stand;stand;stand;heap 1 want abc slip abc price 1", "give 1 if paid");
        Kit.same("c ahead", 2, v.writes(0, 1, 0));
        v.leave(2);
        v.leave(1);
        Kit.same("alone already", 0, v.friends(0));
        v.pay(0, 0);
        Kit.same("nobody of those who left", "a 1", Kit.order(v, 0, false) + " " + v.points(0));
    }

    /** "IllegalStateException: it is PAID": no longer behind a year, or undone, or gone back. */
    private static void payAgain() {
        SecondPlace x = Kit.told(THREE);
        x.image();
        Kit.same("first", 12, x.pay(1, 2));
        Kit.due("again", "IllegalStateException", () -> x.pay(1, 2));
        Kit.same("another heap", 10, x.pay(0, 2));
        x.undo();
        x.undo();
        Kit.due("undone", 12, () -> x.pay(1, 0));
        x.years(1);
        Kit.due("a year later", 12, () -> x.pay(1, 0));
        x.leave(2);
        Kit.due("paid still, though one has left", "IllegalStateException", () -> x.pay(1, 0));
        x.habit(1, 3);
        Kit.same("a slip told", 2, Kit.write(x, 1, 1, 0));
        Kit.due("paid still, though its slip was told", "IllegalStateException", () -> x.pay(1, 0));
        Kit.borough(x, "stand");
        Kit.due("paid still, though one came", "IllegalStateException", () -> x.pay(1, 0));
        x.back();
        Kit.due("gone back", 12, () -> x.pay(1, 0));
        x.image();
        x.years(1);
        x.back();
        Kit.due("the image has it paid", "IllegalStateException", () -> x.pay(1, 0));
    }

    private static void want() {
        SecondPlace x = Kit.told(THREE);
        Kit.same("who is first then", 2, x.want(0, 0, 2));
        Kit.same("changed", "cba", Kit.order(x, 0, true));
        Kit.same("who is at the first told", 2, x.want(0, 1, 0));
        Kit.same("changed again", "bca", Kit.order(x, 0, true));
        Kit.same("slip stays", "abc", Kit.order(x, 0, false));
        Kit.due("one place", NO, () -> x.want(0, 1, 1));
        Kit.due("no place", NO, () -> x.want(0, 0, 3));
        Kit.due("no place first", NO, () -> x.want(0, 3, 0));
        Kit.due("below 0", NO, () -> x.want(0, -1, 0));
        Kit.due("other below 0", NO, () -> x.want(0, 0, -1));
        Kit.due("no heap", OUT, () -> x.want(3, 0, 0));
        Kit.same("acts", 2, x.count(10));
    }

    private static void years() {
        SecondPlace x = Kit.told(THREE);
        Kit.same("one became it", 1, x.years(1));
        Kit.same("year, mayor", "1 1", x.count(4) + " " + x.count(5));
        Kit.same("slips", "abc abc bca", Kit.order(x, 0, false) + " " + Kit.order(x, 1, false) + " " + Kit.order(x, 2, false));
        Kit.same("the same goes on", 0, x.years(60));
        Kit.same("61", 61, x.count(4));
        Kit.due("none", NO, () -> x.years(0));
        Kit.due("below", NO, () -> x.years(-1));
        Kit.due("too many", NO, () -> x.years(61));
        SecondPlace empty = new SecondPlace();
        Kit.same("nobody becomes it", 0, empty.years(3));
        Kit.same("rows are written", "3 -1", empty.count(9) + " " + empty.count(5));
        Kit.same("no draws without heaps", 1, empty.seed(1));
        SecondPlace last = new SecondPlace();
        for (int i = 0; i < 167; i++) {
            last.years(60);
        }
        Kit.same("9999 at most", 9999, last.count(4));
        Kit.same("in the log, too", 9999, last.log(0, 0));
    }

    /** SEED 1: 1103527590 and so on; bits 16 to 30 are 16838, 5758, 10113, 17515, 31051, 5627. */
    private static void strayYears() {
        SecondPlace x = Kit.told("stand;stand;stand;stray 39;heap 1 want abc slip abc price 1;"
            + "heap 2 want abc slip abc price 1;heap 3 want abc slip abc price 1");
        x.years(1);
        Kit.same("16838, 5758, 10113: 38 and 13 stray, 58 does not",
            "cba abc cba", Kit.order(x, 0, false) + " " + Kit.order(x, 1, false) + " " + Kit.order(x, 2, false));
        int due = 1;
        for (int i = 0; i < 3; i++) {
            due = due * 1103515245 + 12345;
        }
        Kit.same("a draw for each heap", due, x.seed(1));
        SecondPlace y = Kit.told("stand;stand;stray 38;heap 1 want ab slip ab price 1");
        y.years(1);
        Kit.same("38 is not below 38", "ab", Kit.order(y, 0, false));
        SecondPlace z = Kit.told("stand;stand;stand;stray 100;heap 1 want abc slip abc price 1");
        z.pay(0, 0);
        z.years(1);
        Kit.same("a paid one strays, too", "bac", Kit.order(z, 0, false));
        Kit.borough(z, "stray 0");
        z.seed(1);
        z.years(1);
        Kit.same("draws without straying", 1103527590, z.seed(0));
    }

    /** Heap 0 has strayed (38 of 39) when heap 1 writes: c has all, so d may stand second; else c would have to. */
    private static void straysAheadOfTheNext() {
        SecondPlace x = Kit.told("stand;stand;stand;stand;stray 39;heap 3 want abcd slip abcd price 1;"
            + "heap 2 want dcba slip dcba habit 2 price 1;heap 2 want abcd slip acbd habit 3 price 1");
        Kit.same("as it is now", 2, x.writes(1, 2, 1));
        x.years(1);
        Kit.same("by slips as they are by then", "dcba adcb dbca", Kit.order(x, 0, false) + " " + Kit.order(x, 1, false) + " "
            + Kit.order(x, 2, false));
    }

    /** Heap 1 looks at heap 0's slip as it is by then. */
    private static void yearsTogether() {
        SecondPlace x = Kit.told("stand;stand;stand;heap 3 want bac slip bac price 1;heap 4 want cba slip cba habit 2 price 1;"
            + "heap 2 want abc slip acb habit 3 price 1");
        x.years(1);
        Kit.same("by slips by then", "bac acb acb", Kit.order(x, 0, false) + " " + Kit.order(x, 1, false) + " " + Kit.order(x, 2, false));
        // Heap 0 is paid for c: acb. Heap 1 cannot keep b off: acb. So b is last for all 9, and a first for 3 who are paid.
        Kit.law(x, "give 1 if paid and place<1;give 2 if year<2 and last");
        x.pay(0, 2);
        x.years(1);
        Kit.same("year and paid as they are ahead", "1 1 18 3", x.log(0, 0) + " " + x.log(0, 1) + " " + x.log(0, 2) + " " + x.log(0, 3));
        Kit.same("then paid has ended and it is year 2", 0, x.points(1));
    }

    private static void log() {
        SecondPlace x = Kit.told(THREE);
        Kit.same("no row", -99, x.log(0, 0));
        x.years(1);
        Kit.same("row", "0 1 9 3", x.log(0, 0) + " " + x.log(0, 1) + " " + x.log(0, 2) + " " + x.log(0, 3));
        Kit.same("no row ago", "-99 -99", x.log(1, 3) + " " + x.log(-1, 0));
        x.years(59);
        Kit.same("60 rows", "60 0", x.count(9) + " " + x.log(59, 0));
        x.years(2);
        Kit.same("the latest 60", "60 2 61 -99", x.count(9) + " " + x.log(59, 0) + " " + x.log(0, 0) + " " + x.log(60, 0));
        Kit.due("another what", "NoSuchElementException", () -> x.log(0, 4));
        Kit.due("what below 0, no row", "NoSuchElementException", () -> x.log(99, -1));
        SecondPlace nobody = new SecondPlace();
        nobody.years(1);
        Kit.same("nobody", "0 -1 0 0", nobody.log(0, 0) + " " + nobody.log(0, 1) + " " + nobody.log(0, 2) + " " + nobody.log(0, 3));
        SecondPlace alone = Kit.told("stand;heap 4 want a slip a price 1", "give 3");
        alone.years(1);
        Kit.same("alone", "0 12 0", alone.log(0, 1) + " " + alone.log(0, 2) + " " + alone.log(0, 3));
    }

    private static void seed() {
        SecondPlace x = new SecondPlace();
        Kit.same("1 at first", 1, x.seed(-5));
        Kit.same("what it was", -5, x.seed(Integer.MIN_VALUE));
        Kit.same("any", Integer.MIN_VALUE, x.seed(0));
        Kit.same("no act", 0, x.count(10));
    }

    /** The state, but for how many acts are remembered. */
    private static String all(SecondPlace x) {
        return Kit.state(x).replaceFirst("^counts((?: -?\\d+){10}) -?\\d+", "counts$1");
    }

    private static String rows(SecondPlace x) {
        StringBuilder s = new StringBuilder();
        for (int ago = 0; ago <= 60; ago++) {
            s.append(x.log(ago, 0)).append(' ').append(x.log(ago, 2)).append(' ');
        }
        return s.toString();
    }

    private static void undoRows() {
        SecondPlace x = Kit.told(THREE + ";stray 40");
        x.years(60);
        String full = rows(x);
        Kit.write(x, 0, 2, 1, 0);
        x.habit(0, 3);
        x.years(30);
        Kit.same("other rows", false, full.equals(rows(x)));
        x.undo();
        x.undo();
        x.undo();
        Kit.same("rows that were written over are back", full, rows(x));
        x.undo();
        Kit.same("no more", false, x.undo());
        Kit.same("year 0", "0 -1 0", x.count(4) + " " + x.count(5) + " " + x.count(9));
    }

    private static void undo() {
        SecondPlace x = Kit.told(THREE);
        x.years(3);
        String start = all(x);
        Kit.write(x, 0, 2, 0, 1);
        x.habit(0, 1);
        x.leave(1);
        x.pay(2, 0);
        x.want(1, 0, 1);
        x.seed(99);
        String before = all(x);
        x.years(7);
        x.seed(1234);
        Kit.same("seven acts", 7, x.count(10));
        Kit.same("undone", true, x.undo());
        Kit.same("years of one call are one, the seed too", before, all(x));
        for (int left = 5; left >= 1; left--) {
            Kit.same("undone to " + left, true, x.undo());
            Kit.same("left", left, x.count(10));
        }
        Kit.same("as ahead of all", start, all(x));
        Kit.same("the first years, too", true, x.undo());
        Kit.same("no more", false, x.undo());
        Kit.same("year 0", "0 -1 0", x.count(4) + " " + x.count(5) + " " + x.count(9));
        x.habit(0, 1);
        Kit.borough(x, "");
        Kit.same("a text: none are remembered", "0 false", x.count(10) + " " + x.undo());
        x.habit(0, 1);
        Kit.law(x, "");
        Kit.same("a law, too", "0 false", x.count(10) + " " + x.undo());
        x.feed(0, 0, 0, 0, 0);
        x.habit(0, 2);
        x.undo();
        Kit.same("the tape stays", true, x.end(20));
    }

    private static void undoLimit() {
        SecondPlace x = Kit.told(THREE);
        for (int i = 0; i < 15; i++) {
            x.habit(0, i % 4);
        }
        Kit.same("12 are remembered", 12, x.count(10));
        int undone = 0;
        for (int i = 0; i < 15; i++) {
            undone += x.undo() ? 1 : 0;
        }
        Kit.same("12 undone", 12, undone);
        Kit.same("as ahead of the 12", 2, x.heap(0, 1));
        x.habit(0, 1);
        Kit.same("one again", true, x.undo());
        Kit.same("as before", 2, x.heap(0, 1));
    }

    private static void image() {
        SecondPlace x = Kit.told(THREE);
        Kit.same("none kept", false, x.back());
        x.years(2);
        x.pay(0, 1);
        Kit.law(x, "give 2 if last");
        String before = all(x);
        x.habit(2, 3);
        x.undo();
        x.habit(2, 3);
        x.undo();
        x.want(0, 0, 1);
        x.want(0, 0, 1);
        x.image();
        Kit.law(x, "give 1");
        Kit.borough(x, "stand;heap 9 want abcd slip abcd price 1;stray 9");
        x.leave(0);
        x.years(5);
        Kit.law(x, "give give");
        Kit.same("back", true, x.back());
        Kit.same("all is as it was", before, all(x));
        Kit.same("law, too", 2 * 4, x.points(2));
        Kit.same("none remembered", "0 false", x.count(10) + " " + x.undo());
        Kit.same("fault stays", 5, x.fault());
        Kit.borough(x, "heap 19 want cba slip cba price 1");
        Kit.same("another heap behind the same number", 2 * 19, x.gives(3, 0));
        x.back();
        Kit.borough(x, "heap 3 want cba slip cba price 1");
        Kit.same("and another one by the same law", 2 * 3, x.gives(3, 0));
        Kit.same("back again", true, x.back());
        Kit.same("all is as it was again", before, all(x));
        x.habit(0, 3);
        x.image();
        x.undo();
        Kit.same("undone is not the image", 0, x.heap(0, 1));
        Kit.same("the image is the latest one", true, x.back());
        Kit.same("with the habit", 3, x.heap(0, 1));
    }
}
