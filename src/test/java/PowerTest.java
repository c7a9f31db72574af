/** Promises 26 to 32 and 37 to 40: spoilers, twins, friends, the cheapest, gains, rest, best, samples, bought, over, margin. */
public final class PowerTest {
    private static final String OUT = "IndexOutOfBoundsException";
    private static final String NO = "IllegalArgumentException";
    private static final String THREE = "stand;stand;stand;heap 5 want abc slip abc price 2;"
        + "heap 4 want bca slip bca habit 1 price 3;heap 3 want cab slip acb habit 2 price 1";

    public static void main(String[] args) {
        spoilers();
        twins();
        friends();
        paidFriends();
        cheapest();
        gains();
        best();
        samples();
        bought();
        over();
        margin();
        Kit.finish();
    }

    private static void spoilers() {
        Kit.same("none", 0, new SecondPlace().spoilers());
        Kit.same("three", 0, Kit.told(THREE).spoilers());
        // b has 5, c 3. Without a: c 5, b 3. Without c: b 5.
        SecondPlace x = Kit.told("stand;stand;stand;heap 5 want abc slip abc price 1;heap 3 want abc slip acb price 1");
        Kit.same("elected", 1, x.elected());
        Kit.same("a spoils", 1, x.spoilers());
        Kit.same("nothing stays", "3 0", x.count(0) + " " + x.count(10));
        // By the law a's number counts, and those behind have a number less.
        SecondPlace y = Kit.told("stand;stand;stand;heap 1 want abc slip abc price 1", "give 1 if one>0 and one<2;give 2 if standing>2 and one>1");
        Kit.same("c is elected", 2, y.elected());
        Kit.same("without a c is number 1, without b too", 0, y.spoilers());
        SecondPlace z = Kit.told("stand;stand;stand;heap 1 want abc slip abc price 1", "give 1 if standing<3 and one<1;give 1 if standing>2 and one>1");
        Kit.same("without a: b, without b: a", 3, z.spoilers());
        SecondPlace v = Kit.told("stand;stand;stand;heap 1 want abc slip bac price 1", "give 2 if last and standing<3;give 1 if place>0 and place<2");
        Kit.same("a now; without b c, without c a", 2, v.spoilers());
    }

    private static void twins() {
        Kit.same("nobody", 0, new SecondPlace().twins());
        SecondPlace x = Kit.told("stand;stand;stand;stand");
        Kit.same("all pairs", 6, x.twins());
        Kit.borough(x, "heap 1 want abcd slip acbd price 1");
        Kit.same("three", 3, x.twins());
        Kit.borough(x, "heap 1 want badc slip acbd price 1");
        Kit.same("ab and cd", 2, x.twins());
        Kit.borough(x, "heap 1 want dabc slip acbd price 1");
        Kit.same("ab", 1, x.twins());
        Kit.borough(x, "heap 1 want adbc slip acbd price 1");
        Kit.same("none", 0, x.twins());
    }

    private static void friends() {
        SecondPlace x = Kit.told(THREE);
        Kit.same("elected already", 0, x.friends(2));
        Kit.same("one heap, the least as bits", 2, x.friends(1));
        Kit.same("two heaps", 3, x.friends(0));
        Kit.due("nobody", OUT, () -> x.friends(3));
        Kit.due("below", OUT, () -> x.friends(-1));
        SecondPlace none = Kit.told("stand;stand;heap 1 want ab slip ab price 1", "give 1 if one<1");
        Kit.same("never", -1, none.friends(1));
        Kit.same("without heaps", "0 -1", Kit.told("stand;stand").friends(0) + " " + Kit.told("stand;stand").friends(1));
        Kit.same("nothing stays", 0, x.heap(1, 3));
        // Heaps 0 and 1 give b 4 past c's 3; heap 2 alone gives b 3 past 2 each.
        SecondPlace few = Kit.told("stand;stand;stand;heap 2 want abc slip bac price 1;heap 2 want abc slip bca price 1;"
            + "heap 3 want abc slip acb price 99");
        Kit.same("fewest heaps, not least bits", 4, few.friends(1));
        Kit.same("cheaper by two", "3 4", few.cheapest(1, false) + " " + few.cheapest(1, true));
        SecondPlace every = Kit.told("stand;stand;heap 2 want ab slip ba price 1;heap 2 want ab slip ba price 1", "give 1 if paid and one>0 and many>1;give 1 if one<1 and not paid");
        Kit.same("one of two is as many", 3, every.friends(1));
        Kit.same("all are needed", "3 4", every.cheapest(1, false) + " " + every.cheapest(1, true));
    }

    private static void paidFriends() {
        SecondPlace x = Kit.told("stand;stand;stand;heap 2 want abc slip abc price 5;heap 1 want abc slip abc price 1", "give 1 if paid and place>0 and place<2");
        Kit.same("paid in the law, too", 1, x.friends(1));
        x.pay(0, 1);
        Kit.same("it is now", 0, x.friends(1));
        Kit.same("a paid one, too", 1, x.friends(2));
        Kit.same("and costs again", 10, x.cheapest(2, true));
        SecondPlace alone = Kit.told("stand;heap 1 want a slip a price 1");
        Kit.same("alone", 0, alone.friends(0));
        Kit.same("a slip of two", 1, Kit.told("stand;stand;heap 3 want ab slip ab price 1").bought(1));
    }

    private static void cheapest() {
        SecondPlace x = Kit.told(THREE);
        Kit.same("for b", "4 3", x.cheapest(1, false) + " " + x.cheapest(1, true));
        Kit.same("for a", "5 13", x.cheapest(0, false) + " " + x.cheapest(0, true));
        Kit.same("for c", "0 0", x.cheapest(2, false) + " " + x.cheapest(2, true));
        Kit.due("nobody", OUT, () -> x.cheapest(3, true));
        Kit.due("below", OUT, () -> x.cheapest(-1, false));
        SecondPlace none = Kit.told("stand;stand;heap 1 want ab slip ab price 1", "give 1 if one<1");
        Kit.same("never", "-1 -1", none.cheapest(1, false) + " " + none.cheapest(1, true));
        SecondPlace two = Kit.told("stand;stand;heap 2 want ab slip ba price 3;heap 3 want ab slip ba price 2;heap 1 want ab slip ba price 6");
        Kit.same("4 of 6 voters: 1 and 2 or 0 and 1, both 12", "3 12", two.cheapest(1, false) + " " + two.cheapest(1, true));
    }

    private static void gains() {
        SecondPlace x = Kit.told(THREE);
        Kit.same("gains", "false true false", x.gains(0) + " " + x.gains(1) + " " + x.gains(2));
        Kit.same("does not rest", false, x.rests());
        Kit.due("no heap", OUT, () -> x.gains(3));
        Kit.due("below", OUT, () -> x.gains(-1));
        Kit.write(x, 1, 0, 1, 2);
        Kit.same("b is elected", 1, x.elected());
        Kit.same("heap 0 alone could have a", "true false false false", x.gains(0) + " " + x.gains(1) + " " + x.gains(2) + " " + x.rests());
        SecondPlace y = Kit.told("stand;stand;stand;heap 5 want abc slip bac price 1;heap 4 want bca slip bac price 1");
        Kit.same("a has all, and heap 1 cannot help it", "0 false false true", y.elected() + " " + y.gains(0) + " " + y.gains(1) + " " + y.rests());
        x.leave(0);
        x.leave(0);
        x.leave(0);
        Kit.same("nobody", "false true", x.gains(0) + " " + x.rests());
        Kit.same("no heaps", true, Kit.told("stand;stand").rests());
    }

    private static String bestOf(SecondPlace x, int heap) {
        StringBuilder s = new StringBuilder();
        for (int k = 0; x.best(heap, k) != -1; k++) {
            s.append((char) ('a' + x.best(heap, k)));
        }
        return s.toString();
    }

    private static void best() {
        SecondPlace x = Kit.told(THREE);
        Kit.same("b by abc", "abc", bestOf(x, 1));
        Kit.same("only c could be", "abc", bestOf(x, 0));
        Kit.same("c by acb", "acb", bestOf(x, 2));
        Kit.same("no place", "-1 -1", x.best(0, 3) + " " + x.best(0, -1));
        Kit.due("no heap", OUT, () -> x.best(3, 0));
        Kit.same("slips stay", "bca", Kit.order(x, 1, false));
        SecondPlace four = Kit.told("stand;stand;stand;stand;heap 1 want dcba slip abcd price 1", "give 5 if place>1 and place<3;void if one<2");
        Kit.same("d third behind c", "cadb", bestOf(four, 0));
        x.leave(0);
        x.leave(0);
        x.leave(0);
        Kit.same("nobody", -1, x.best(0, 0));
    }

    private static void samples() {
        SecondPlace x = Kit.told(THREE);
        Kit.same("of one", "2 3", x.samples(1, false) + " " + x.samples(1, true));
        Kit.same("of two", "1 3", x.samples(2, false) + " " + x.samples(2, true));
        Kit.same("of three", "1 1", x.samples(3, false) + " " + x.samples(3, true));
        Kit.same("of more than there are", "0 0", x.samples(4, false) + " " + x.samples(8, true));
        Kit.due("none", NO, () -> x.samples(0, true));
        Kit.due("nine", NO, () -> x.samples(9, false));
        Kit.due("below", NO, () -> x.samples(-1, false));
    }

    private static void bought() {
        SecondPlace x = Kit.told(THREE);
        Kit.same("bought", "0 1 2", x.bought(0) + " " + x.bought(1) + " " + x.bought(2));
        Kit.due("nobody", OUT, () -> x.bought(3));
        Kit.due("below", OUT, () -> x.bought(-1));
        Kit.same("no place 1", 0, Kit.told("stand;heap 1 want a slip a price 1").bought(0));
    }

    private static void over() {
        SecondPlace x = Kit.told(THREE, "void");
        Kit.same("over", "8 4 9 3", x.over(0, 1) + " " + x.over(1, 0) + " " + x.over(1, 2) + " " + x.over(2, 1));
        Kit.same("and a, c", "8 4", x.over(0, 2) + " " + x.over(2, 0));
        Kit.due("both one", NO, () -> x.over(0, 0));
        Kit.due("nobody", OUT, () -> x.over(0, 3));
        Kit.due("nobody twice", OUT, () -> x.over(3, 3));
        Kit.due("below", OUT, () -> x.over(-1, 0));
    }

    private static void margin() {
        SecondPlace x = Kit.told(THREE);
        Kit.same("7 less 5", 2, x.margin());
        Kit.same("nobody", 0, new SecondPlace().margin());
        SecondPlace alone = Kit.told("stand;heap 3 want a slip a price 1", "give 4");
        Kit.same("all, if alone", 12, alone.margin());
        Kit.same("as many", 0, Kit.told("stand;stand;heap 3 want ab slip ab price 1", "give 4").margin());
    }
}
