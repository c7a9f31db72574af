/** Promises 19 to 25 and 36: other laws, who beats whom, rings, the worst, harm, and laws that give what is wanted. */
public final class OtherLawsTest {
    private static final String OUT = "IndexOutOfBoundsException";
    private static final String NO = "IllegalArgumentException";

    public static void main(String[] args) {
        by();
        byTies();
        runoff();
        beats();
        ring();
        worst();
        harm();
        laws();
        Kit.finish();
    }

    private static String all(SecondPlace x, boolean wants) {
        StringBuilder s = new StringBuilder();
        for (int law = 0; law < 6; law++) {
            s.append(x.by(law, wants)).append(' ');
        }
        return s.toString().trim();
    }

    private static void by() {
        // Place 0: a 4, b 3, c 2. Place 1: d 5, b 4. Twice: a 8, b 10. Points: a 12, b 17, d 15, c 10. Last: a 5, c 4.
        SecondPlace x = Kit.told("stand;stand;stand;stand;heap 4 want dcba slip abdc price 1;heap 3 want dcba slip bdca price 1;"
            + "heap 2 want dcba slip cdba price 1");
        Kit.same("on slips", "0 3 1 1 1 1", all(x, false));
        Kit.same("on wants", "3 2 3 3 3 1", all(x, true));
        Kit.law(x, "void");
        Kit.same("none void", "0 3 1 1 1 1", all(x, false));
        Kit.due("no law", OUT, () -> x.by(6, false));
        Kit.due("below 0", OUT, () -> x.by(-1, true));
        Kit.same("no act", 0, x.count(10));
    }

    private static void byTies() {
        SecondPlace x = Kit.told("stand;stand;stand");
        Kit.same("no heaps", "0 0 0 0 0 0", all(x, false));
        Kit.borough(x, "heap 1 want abc slip cba price 1;heap 1 want abc slip bca price 1");
        Kit.same("ties", "1 1 1 1 1 1", all(x, false));
        Kit.same("nobody", "-1 -1 -1 -1 -1 -1", all(new SecondPlace(), true));
        SecondPlace one = Kit.told("stand;heap 3 want a slip a price 1");
        Kit.same("alone", "0 0 0 0 0 0", all(one, false));
    }

    private static void runoff() {
        // At place 0: a 2, b 2, c 2: a and b; b is ahead of a on 4 of 6.
        SecondPlace x = Kit.told("stand;stand;stand;heap 2 want abc slip abc price 1;heap 2 want abc slip bac price 1;"
            + "heap 2 want abc slip cba price 1");
        Kit.same("the lesser two", 1, x.by(4, false));
        Kit.same("by all", 0, x.by(4, true));
        // At place 0: c 3, b 3, a 1; ahead: b 3 + 1 against c 3.
        SecondPlace y = Kit.told("stand;stand;stand;heap 3 want abc slip cab price 1;heap 3 want abc slip bac price 1;"
            + "heap 1 want abc slip abc price 1");
        Kit.same("b past c", 1, y.by(4, false));
        Kit.same("not a", 1, y.by(0, false));
        SecondPlace z = Kit.told("stand;stand;heap 3 want ba slip ba price 1;heap 3 want ab slip ab price 1");
        Kit.same("of both the lesser", 0, z.by(4, false));
        // c has the most, a and b none: the lesser of these comes along, and loses.
        SecondPlace v = Kit.told("stand;stand;stand;heap 3 want abc slip cba price 1");
        Kit.same("one alone has all", 2, v.by(4, false));
    }

    private static void beats() {
        SecondPlace x = Kit.told("stand;stand;stand;heap 5 want abc slip cba price 2;heap 4 want bca slip cba price 3;"
            + "heap 3 want cab slip cba price 1");
        Kit.same("a b", "true false", x.beats(0, 1) + " " + x.beats(1, 0));
        Kit.same("b c", "true false", x.beats(1, 2) + " " + x.beats(2, 1));
        Kit.same("c a", "true false", x.beats(2, 0) + " " + x.beats(0, 2));
        Kit.same("no champion", -1, x.champion());
        Kit.due("both one", NO, () -> x.beats(1, 1));
        Kit.due("nobody", OUT, () -> x.beats(3, 3));
        Kit.due("other nobody", OUT, () -> x.beats(0, 3));
        Kit.due("below", OUT, () -> x.beats(-1, 0));
        SecondPlace y = Kit.told("stand;stand;heap 5 want ab slip ab price 1;heap 5 want ba slip ab price 1");
        Kit.same("as many is not more", "false false -1", y.beats(0, 1) + " " + y.beats(1, 0) + " " + y.champion());
        Kit.borough(y, "heap 1 want ba slip ab price 1");
        Kit.same("champion", 1, y.champion());
        Kit.same("alone", 0, Kit.told("stand").champion());
        Kit.same("nobody is none", -1, new SecondPlace().champion());
    }

    private static void ring() {
        Kit.same("none", 0, new SecondPlace().ring());
        SecondPlace x = Kit.told("stand;stand;stand;stand;heap 1 want abcd slip abcd price 1;heap 1 want bcad slip abcd price 1;"
            + "heap 1 want cabd slip abcd price 1");
        Kit.same("one ring", 1, x.ring());
        Kit.same("turned the other way", 1, Kit.told("stand;stand;stand;heap 1 want cba slip abc price 1;"
            + "heap 1 want acb slip abc price 1;heap 1 want bac slip abc price 1").ring());
        SecondPlace two = Kit.told("stand;stand;stand;stand;heap 1 want abcd slip abcd price 1;heap 1 want bcda slip abcd price 1;"
            + "heap 1 want cdab slip abcd price 1");
        Kit.same("a, b; b, c and d; c, a and d; d, a: rings abc and abd", 2, two.ring());
    }

    private static void worst() {
        Kit.same("nobody", -1, new SecondPlace().worst());
        SecondPlace x = Kit.told("stand;stand;stand");
        Kit.same("no heaps", 0, x.worst());
        Kit.borough(x, "heap 2 want acb slip bca price 1;heap 2 want abc slip bca price 1");
        Kit.same("of several the least", 1, x.worst());
        Kit.borough(x, "heap 1 want abc slip bca price 1");
        Kit.same("the most", 2, x.worst());
    }

    private static void harm() {
        SecondPlace x = Kit.told("stand;stand;stand;heap 5 want abc slip abc price 2;heap 4 want bca slip bca habit 1 price 3;"
            + "heap 3 want cab slip acb habit 2 price 1");
        Kit.same("harm", "11 11 14", x.harm(0) + " " + x.harm(1) + " " + x.harm(2));
        Kit.same("least, of several the least", 0, x.least(false));
        Kit.same("gap", 3, x.least(true));
        Kit.due("nobody", OUT, () -> x.harm(3));
        Kit.due("below", OUT, () -> x.harm(-1));
        Kit.same("nobody has the least", "-1 0", new SecondPlace().least(false) + " " + new SecondPlace().least(true));
        SecondPlace y = Kit.told("stand;stand;heap 2 want ba slip ab price 2");
        Kit.same("b is wanted and elected", "1 0", y.least(false) + " " + y.least(true));
    }

    private static void laws() {
        SecondPlace x = Kit.told("stand;stand;stand;heap 5 want abc slip abc price 2;heap 4 want bca slip bca habit 1 price 3;"
            + "heap 3 want cab slip acb habit 2 price 1");
        Kit.same("least harm", 1 + 4 + 8 + 16, x.laws(false));
        Kit.same("no champion", 0, x.laws(true));
        SecondPlace y = Kit.told("stand;stand;stand;heap 4 want bac slip abc price 1;heap 3 want bca slip bca price 1");
        Kit.same("the champion b", "1 " + (2 + 4 + 8 + 32), y.champion() + " " + y.laws(true));
        Kit.same("nobody", "0 0", new SecondPlace().laws(false) + " " + new SecondPlace().laws(true));
        Kit.same("alone", "63 63", Kit.told("stand").laws(false) + " " + Kit.told("stand").laws(true));
    }
}
