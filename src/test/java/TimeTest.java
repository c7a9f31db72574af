/** Promises 33 to 35, 41 to 43 and 49: years ahead, what settles and comes round, trials, spans, who led, counts. */
public final class TimeTest {
    private static final String OUT = "IndexOutOfBoundsException";
    private static final String NO = "IllegalArgumentException";
    private static final String THREE = "stand;stand;stand;heap 5 want abc slip abc price 2;"
        + "heap 4 want bca slip bca habit 1 price 3;heap 3 want cab slip acb habit 2 price 1";

    public static void main(String[] args) {
        ahead();
        settles();
        settlesLate();
        round();
        trial();
        span();
        led();
        count();
        Kit.finish();
    }

    private static void ahead() {
        SecondPlace x = Kit.told(THREE + ";stray 100");
        Kit.same("now", -1, x.ahead(0));
        Kit.same("without draws", 1, x.ahead(1));
        Kit.same("far", 1, x.ahead(40));
        Kit.same("nothing stays", "0 -1 0 0", x.count(4) + " " + x.count(5) + " " + x.count(9) + " " + x.count(10));
        Kit.same("no draws", 1, x.seed(1));
        Kit.due("too far", NO, () -> x.ahead(41));
        Kit.due("below", NO, () -> x.ahead(-1));
        Kit.same("nobody", -1, new SecondPlace().ahead(40));
        SecondPlace y = Kit.told("stand;stand;stand;stray 40;heap 1 want abc slip abc price 1", "give 1 if place<1");
        Kit.same("nobody strays ahead", "0 0 0 1", y.ahead(1) + " " + y.ahead(3) + " " + y.settles() + " " + y.round());
        Kit.borough(y, "heap 1 want abc slip abc price 1;heap 1 want abc slip abc price 1;heap 1 want abc slip abc price 1");
        Kit.same("not one of four", "0 1", y.settles() + " " + y.round());
        Kit.law(x, "give 1 if year<5 and one>1;give 1 if year>4 and one<1");
        Kit.same("by the year", "2 0", x.ahead(5) + " " + x.ahead(6));
        x.years(3);
        Kit.same("from now", "2 0", x.ahead(2) + " " + x.ahead(3));
    }

    private static void settles() {
        Kit.same("nobody", 0, new SecondPlace().settles());
        SecondPlace x = Kit.told(THREE);
        Kit.same("after a year", 1, x.settles());
        x.years(1);
        Kit.same("now", 0, x.settles());
        x.habit(0, 1);
        Kit.same("after another", 1, x.settles());
        SecondPlace paid = Kit.told("stand;stand;heap 1 want ab slip ab price 1");
        paid.pay(0, 0);
        Kit.same("a paid one does not write in the first year", 0, paid.settles());
        Kit.same("but in the second", 1, paid.round());
    }

    /** Three years come round as long as this law holds; from the year on it gives nothing, and all settle within a year. */
    private static SecondPlace turning(int year) {
        return Kit.told("stand;stand;stand;stand;heap 1 want adbc slip dacb habit 2 price 1;heap 4 want dcab slip abcd habit 2 price 1;"
            + "heap 4 want bacd slip badc habit 2 price 1;heap 2 want cbad slip badc habit 2 price 1",
            "give 2 if place>0 and place<2 and year<" + year + ";give 1 if place>1 and place<3 and year<" + year);
    }

    private static void settlesLate() {
        Kit.same("just so", 40, turning(39).settles());
        Kit.same("a year too late", -1, turning(40).settles());
        Kit.same("never, but it comes round", "-1 3", turning(999).settles() + " " + turning(999).round());
        SecondPlace later = turning(40);
        later.years(1);
        Kit.same("a year later", 40, later.settles());
    }

    /** The shrewd heap puts a second, but b in those years in which the law gives a nothing there. */
    private static SecondPlace shrewd(String otherYears, String years) {
        return Kit.told("stand;stand;stand;heap 1 want abc slip abc habit 2 price 1", "give 1 if place<1;"
            + "give 2 if place>0 and place<2 and one>0 and (" + otherYears + ");give 2 if place>0 and place<2 and (" + years + ")");
    }

    private static void round() {
        Kit.same("nobody", 1, new SecondPlace().round());
        Kit.same("rests", 1, Kit.told(THREE).round());
        Kit.same("the 40th year differs from all before", -1, shrewd("year>38", "year<39").round());
        Kit.same("though it rests at first", 1, shrewd("year>38", "year<39").settles());
        Kit.same("the 39th and 40th are alike", 1, shrewd("year>37", "year<38").round());
        Kit.same("as two years before", 2, shrewd("year>37 and year<39", "year<38 or year>38").round());
        Kit.same("as twelve years before", 12, shrewd("year>27 and year<39", "year<28 or year>38").round());
        Kit.same("as thirteen years before", -1, shrewd("year>26 and year<39", "year<27 or year>38").round());
    }

    private static void trial() {
        SecondPlace x = Kit.told(THREE);
        Kit.same("none", "-1 0", x.trial(0, false) + " " + x.trial(0, true));
        Kit.same("one", "1 1", x.trial(1, false) + " " + x.trial(1, true));
        Kit.same("two", "1 1", x.trial(2, false) + " " + x.trial(2, true));
        Kit.due("too far", NO, () -> x.trial(41, true));
        Kit.due("below", NO, () -> x.trial(-1, false));
        // One heap alone: the draws are 38, 58, 13, 15, 51, 27: below 40 the slip is turned about.
        SecondPlace y = Kit.told("stand;stand;stand;stray 40;heap 1 want abc slip abc price 1", "give 1 if place<1");
        Kit.same("c a c c a c", "2 0 2 2 0 2", y.trial(1, false) + " " + y.trial(2, false) + " " + y.trial(3, false) + " "
            + y.trial(4, false) + " " + y.trial(5, false) + " " + y.trial(6, false));
        Kit.same("changes", "1 2 3 3 4 5", y.trial(1, true) + " " + y.trial(2, true) + " " + y.trial(3, true) + " "
            + y.trial(4, true) + " " + y.trial(5, true) + " " + y.trial(6, true));
        Kit.same("nothing stays", "0 -1 abc 0", y.count(4) + " " + y.count(5) + " " + Kit.order(y, 0, false) + " " + y.count(9));
        Kit.same("nor draws", 1, y.seed(1));
        Kit.same("years do the same", 5, y.years(6));
    }

    private static void span() {
        String told = "stand;stand;stand;stray 40;heap 1 want abc slip abc price 1";
        for (int n = 0; n <= 40; n++) {
            SecondPlace x = Kit.told(told, "give 1 if place<1");
            int fewest = 99;
            int most = 0;
            for (int seed = 1; seed <= 6; seed++) {
                x.seed(seed);
                fewest = Math.min(fewest, x.trial(n, true));
                most = Math.max(most, x.trial(n, true));
            }
            Kit.same("from 1 to 6, " + n, fewest + " " + most, x.span(n, false) + " " + x.span(n, true));
            Kit.same("they differ far out, " + n, true, n < 20 || fewest < most);
        }
        SecondPlace x = Kit.told(told, "give 1 if place<1");
        x.seed(77);
        x.span(9, true);
        SecondPlace y = Kit.told("stand;stand;stray 10;heap 1 want ab slip ab price 1", "give 1 if place<1");
        Kit.same("1 12 9 11 5 8", "1 12", y.span(30, false) + " " + y.span(30, true));
        Kit.same("the seed stays", 77, x.seed(77));
        Kit.same("none", "0 0", x.span(0, false) + " " + x.span(0, true));
        Kit.same("one each", "1 1", x.span(1, false) + " " + x.span(1, true));
        Kit.due("too far", NO, () -> x.span(41, true));
        Kit.due("below", NO, () -> x.span(-1, true));
        Kit.same("nobody", "0 0", new SecondPlace().span(40, false) + " " + new SecondPlace().span(40, true));
    }

    private static void led() {
        SecondPlace x = Kit.told("stand;stand;stand;stray 40;heap 1 want abc slip abc price 1", "give 1 if place<1");
        Kit.same("none yet", "0 -1", x.led(0, false) + " " + x.led(0, true));
        x.years(6);
        Kit.same("a in 1 and 4", "2 4", x.led(0, false) + " " + x.led(0, true));
        Kit.same("b never", "0 -1", x.led(1, false) + " " + x.led(1, true));
        Kit.same("c in 0, 2, 3, 5", "4 5", x.led(2, false) + " " + x.led(2, true));
        Kit.due("nobody", OUT, () -> x.led(3, true));
        Kit.due("below", OUT, () -> x.led(-1, false));
        x.leave(0);
        Kit.same("the log stays as it is", "2 4", x.led(0, false) + " " + x.led(0, true));
        Kit.due("c is number 1 now", OUT, () -> x.led(2, false));
    }

    private static void count() {
        SecondPlace x = Kit.told(THREE + ";stray 7", "give 1;void if one>0 and one<2");
        x.years(2);
        x.habit(0, 1);
        int[] due = {3, 3, 1, 2, 2, 0, 7, 12, 4, 2, 2};
        for (int what = 0; what < due.length; what++) {
            Kit.same("count " + what, due[what], x.count(what));
        }
        Kit.same("another", "-1 -1", x.count(11) + " " + x.count(-1));
    }
}
