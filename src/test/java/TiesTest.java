/** "of several the least" and its like, sentence by sentence; what is as much is not more. */
public final class TiesTest {
    private static final String FIVE = "stand;stand;stand;stand;stand";

    public static void main(String[] args) {
        elected();
        shrewdHabit();
        placesOfOtherLaws();
        twiceFirst();
        pointsByPlaces();
        fewestLast();
        runoffSeats();
        runoffEnd();
        beatsAndChampion();
        worst();
        leastHarm();
        friends();
        cheapest();
        gains();
        lastOrder();
        margin();
        samples();
        spoilers();
        changesOfMayor();
        Kit.finish();
    }

    /** As many slips as orders; heap i has as many voters as told ahead of its order, "3 abc". */
    private static SecondPlace slips(int standing, String... slips) {
        return heaps(standing, false, slips);
    }

    private static SecondPlace wants(int standing, String... wants) {
        return heaps(standing, true, wants);
    }

    private static SecondPlace heaps(int standing, boolean wants, String... orders) {
        SecondPlace x = new SecondPlace();
        for (int i = 0; i < standing; i++) {
            Kit.borough(x, "stand");
        }
        String any = "abcdef".substring(0, standing);
        for (String s : orders) {
            String[] parts = s.split(" ");
            String text = "heap " + parts[0] + " want " + (wants ? parts[1] : any) + " slip " + (wants ? any : parts[1]) + " price 1";
            Kit.same(text, true, Kit.borough(x, text) instanceof Integer);
        }
        return x;
    }

    /** "the one of the most POINTS (of several the least)". */
    private static void elected() {
        Kit.same("b and c", 1, slips(3, "2 abc", "2 acb").elected());
        Kit.same("b and c, told the other way", 1, slips(3, "2 acb", "2 abc").elected());
        Kit.same("c has one more", 2, slips(3, "2 abc", "3 acb").elected());
        Kit.same("all three", 0, slips(3, "2 abc", "2 acb", "2 cab").elected());
        Kit.same("all have none", 0, Kit.told("stand;stand;stand;heap 2 want abc slip cba price 1", "void").elected());
    }

    /** "(of several the one that is wanted more itself)". */
    private static void shrewdHabit() {
        SecondPlace same = Kit.told(FIVE + ";heap 1 want ecdba slip abcde price 1;heap 9 want abcde slip acbde price 1");
        Kit.same("c is elected whatever it writes", "0 4 2 3 1", written(same));
        // c gets something at place 3 alone, where it stands if d or b is second; by e or c second it is a.
        SecondPlace other = Kit.told(FIVE + ";heap 1 want ecdba slip abcde price 1", "give 3 if place>2 and place<4 and one>1 and one<3");
        Kit.same("c by d and by b second: d is wanted more", "0 3 4 2 1", written(other));
    }

    private static String written(SecondPlace x) {
        StringBuilder s = new StringBuilder();
        for (int p = 0; p < x.count(0); p++) {
            s.append(p == 0 ? "" : " ").append(x.writes(0, 2, p));
        }
        return s.toString();
    }

    /** "0 most at place 0; 1 most at place 1 ... (of several the least)". */
    private static void placesOfOtherLaws() {
        Kit.same("place 0: b and c", 1, slips(3, "2 cab", "2 bac", "1 abc").by(0, false));
        Kit.same("place 0: c has one more", 2, slips(3, "3 cab", "2 bac", "1 abc").by(0, false));
        Kit.same("place 1: b and c", 1, slips(3, "2 acb", "2 abc", "1 bac").by(1, false));
        Kit.same("place 1: c has one more", 2, slips(3, "3 acb", "2 abc", "1 bac").by(1, false));
        Kit.same("on wants, too", "1 2", wants(3, "2 cab", "2 bac", "1 abc").by(0, true) + " " + wants(3, "3 acb", "2 abc").by(1, true));
    }

    /** "2 twice those at place 0 and those at place 1". */
    private static void twiceFirst() {
        // a 3 at place 0: 6. b 2 at place 0 and 3 at place 1: 7. c 5 at place 1 and none ahead: 5.
        Kit.same("7 to 6", 1, slips(4, "3 abcd", "2 bdca").by(2, false));
        // a 3 at place 0: 6. b 5 at place 1: 5. The rest is spread.
        Kit.same("6 to 5", 0, slips(5, "3 abcde", "1 cbade", "1 dbace").by(2, false));
        // a 1 at place 0: 2. b 2 at place 1: 2.
        Kit.same("2 to 2: the least", 0, slips(4, "1 abcd", "1 dbca").by(2, false));
        Kit.same("the least of two such", 1, slips(4, "1 bacd", "1 dcab").by(2, false));
    }

    /** "3 points by places (as many as are behind on the SLIP)". */
    private static void pointsByPlaces() {
        // a 2 + 0, b 1 + 2, c 0 + 1 of one and one.
        Kit.same("3 to 2", 1, slips(3, "1 abc", "1 bca").by(3, false));
        Kit.same("a and b 3 each", 0, slips(3, "1 abc", "1 bac").by(3, false));
        Kit.same("b and c 4 each", 1, slips(3, "1 bca", "1 cba", "1 abc", "1 acb", "2 bca", "2 cba").by(3, false));
        // a: 3 * 3 = 9 ; b: 3 * 2 + 2 * 2 = 10 ; c: 3 * 1 + 2 * 3 = 9.
        Kit.same("10 to 9 and 9", 1, slips(4, "3 abcd", "2 cbda").by(3, false));
    }

    /** "5 the fewest at the last place". */
    private static void fewestLast() {
        Kit.same("b and c one each, a two", 1, slips(3, "2 bca", "1 acb", "1 abc").by(5, false));
        Kit.same("c has none", 2, slips(3, "2 bca", "1 acb").by(5, false));
        Kit.same("b and c have none", 1, slips(3, "2 bca").by(5, false));
        Kit.same("a by wants", 0, wants(3, "2 acb", "1 abc", "1 bac").by(5, true));
    }

    /** "the two most at place 0 (of several the lesser)". */
    private static void runoffSeats() {
        // At place 0: a 3, b 2, c 2. c would be ahead of a on 4 of 7, b is so on 2 alone.
        Kit.same("a and b", 0, slips(3, "3 abc", "2 bac", "2 cab").by(4, false));
        // With one more c comes in and wins: c 3, a 3; ahead of a on 3 + 2.
        Kit.same("a and c", 2, slips(3, "3 abc", "2 bca", "3 cab").by(4, false));
        // At place 0: c 3, a 2, b 2: c and a; b would be ahead of c on 4 of 7, a is so on 2.
        Kit.same("c and a", 2, slips(3, "3 cba", "2 acb", "2 bca").by(4, false));
        // All have one: a and b, and b is ahead of a.
        Kit.same("a and b of three", 1, slips(3, "1 abc", "1 bac", "1 cba").by(4, false));
    }

    /** "then who of both is ahead on more SLIPS (of several the lesser)". */
    private static void runoffEnd() {
        Kit.same("as many: the lesser", 1, slips(3, "2 cba", "2 bca").by(4, false));
        Kit.same("one more", 2, slips(3, "3 cba", "2 bca").by(4, false));
        Kit.same("voters, not heaps", 2, slips(3, "5 cba", "2 bca", "2 bac").by(4, false));
        Kit.same("the lesser has more", 1, slips(3, "2 cba", "3 bca").by(4, false));
    }

    /** "whether more voters WANT the one ahead of the other one"; "who BEATS each other one". */
    private static void beatsAndChampion() {
        SecondPlace x = wants(3, "2 abc", "2 bac");
        Kit.same("as many", "false false", x.beats(0, 1) + " " + x.beats(1, 0));
        Kit.same("both beat c", "true true", x.beats(0, 2) + " " + x.beats(1, 2));
        Kit.same("no champion of two alike", "-1 0", x.champion() + " " + x.ring());
        Kit.borough(x, "heap 1 want cba slip abc price 1");
        Kit.same("b is it by one voter", "true 1", x.beats(1, 0) + " " + x.champion());
    }

    /** "whom the most have last in WANTS (of several the least)". */
    private static void worst() {
        Kit.same("b and c", 1, wants(3, "2 acb", "2 abc", "1 bca").worst());
        Kit.same("the first heap tells", 2, wants(3, "3 abc", "2 acb").worst());
        Kit.same("the last heap tells", 0, wants(3, "2 abc", "3 cba").worst());
        Kit.same("slips tell nothing", 2, slips(3, "3 cba").worst());
    }

    /** "LEAST HARM: who has the least (of several the least)". */
    private static void leastHarm() {
        Kit.same("b and c", "1 1", wants(3, "1 bca", "1 cba").least(false) + " " + wants(3, "1 cba", "1 bca").least(false));
        Kit.same("c has less", 2, wants(3, "1 bca", "2 cba").least(false));
        Kit.same("all three", 0, wants(3, "1 abc", "1 bca", "1 cab").least(false));
    }

    /** "the fewest HEAPS ...: of several sets the least as bits". */
    private static void friends() {
        // c has 12, b 6. a needs 6 of c's: heap 2 alone, or heaps 0 and 1.
        SecondPlace x = Kit.told("stand;stand;stand;heap 3 want abc slip acb price 1;heap 3 want abc slip acb price 1;"
            + "heap 6 want abc slip acb price 1;heap 6 want abc slip abc price 1");
        Kit.same("c is elected", 2, x.elected());
        Kit.same("one heap, not two of less bits", 4, x.friends(0));
        SecondPlace y = Kit.told("stand;stand;stand;heap 3 want abc slip acb price 1;heap 3 want abc slip bca price 1;heap 3 want abc slip abc price 1");
        Kit.same("c is elected", 2, y.elected());
        Kit.same("of heap 0, 1 or 2 the least", 1, y.friends(0));
        Kit.same("and for b", 1, y.friends(1));
    }

    /** "that for which PRICE times MANY ... is the least (of several the least as bits)". */
    private static void cheapest() {
        SecondPlace y = Kit.told("stand;stand;heap 2 want ab slip ba price 2;heap 1 want ab slip ba price 4;heap 2 want ab slip ba price 2;"
            + "heap 1 want ab slip ba price 3");
        // All have a second: 6. b needs 4: heaps 0 and 2 for 8, 0, 1 and 3 for 11, 1, 2 and 3 for 11.
        Kit.same("a is elected", 0, y.elected());
        Kit.same("two heaps for 8", "5 8", y.cheapest(1, false) + " " + y.cheapest(1, true));
        SecondPlace z = Kit.told("stand;stand;heap 2 want ab slip ba price 2;heap 1 want ab slip ba price 4;heap 1 want ab slip ba price 4;"
            + "heap 1 want ab slip ba price 9");
        // Five: b needs 3: heaps 0 and 1, or 0 and 2, for 8; all others are dearer.
        Kit.same("of several the least", "3 8", z.cheapest(1, false) + " " + z.cheapest(1, true));
        SecondPlace v = Kit.told("stand;stand;heap 3 want ab slip ba price 9;heap 1 want ab slip ba price 1;heap 1 want ab slip ba price 1;"
            + "heap 1 want ab slip ba price 2");
        // Six: b needs 4: heap 0 and another for 28; the three others are 3 alone.
        Kit.same("cheap ones are too few", "3 28", v.cheapest(1, false) + " " + v.cheapest(1, true));
        SecondPlace w = Kit.told("stand;stand;heap 5 want ab slip ba price 9;heap 2 want ab slip ba price 1;heap 2 want ab slip ba price 1;"
            + "heap 2 want ab slip ba price 1");
        Kit.same("more heaps may be cheaper", "14 6 3", w.cheapest(1, false) + " " + w.cheapest(1, true) + " " + w.friends(1));
    }

    /** "whether some of these one wants more than who is ELECTED now". */
    private static void gains() {
        SecondPlace x = Kit.told("stand;stand;stand;heap 4 want abc slip cab price 1;heap 3 want bca slip acb price 1");
        Kit.same("a is elected, wanted most: no more to gain", "0 false", x.elected() + " " + x.gains(0));
        Kit.same("heap 1 could have no other", "1 false", x.heap(1, 7) + " " + x.gains(1));
        Kit.same("it rests", true, x.rests());
        SecondPlace y = Kit.told("stand;stand;stand;heap 4 want bac slip cab price 1;heap 3 want cab slip abc price 1");
        Kit.same("a now, b wanted more", "0 7 true", y.elected() + " " + y.heap(0, 7) + " " + y.gains(0));
        Kit.same("one that gains is enough", false, y.rests());
    }

    /** COULD and BEST look at the last of all 720 orders, too: f is elected if all others stand where they get nothing. */
    private static void lastOrder() {
        SecondPlace x = Kit.told("stand;stand;stand;stand;stand;stand;heap 1 want fabcde slip abcdef price 1",
            "give 1 if one<1 and place<5;give 1 if one>0 and one<2 and (place<4 or place>4);"
            + "give 1 if one>1 and one<3 and (place<3 or place>3);give 1 if one>2 and one<4 and (place<2 or place>2);"
            + "give 1 if one>3 and one<5 and (place<1 or place>1);give 1 if one>4");
        Kit.same("f could be", 32, x.heap(0, 7) & 32);
        StringBuilder s = new StringBuilder();
        for (int k = 0; k < 6; k++) {
            s.append((char) ('a' + x.best(0, k)));
        }
        Kit.same("the last order of all", "fedcba", s.toString());
        Kit.same("it gains by that alone", true, x.gains(0));
    }

    /** "POINTS of who is ELECTED less the most POINTS of anybody else". */
    private static void margin() {
        Kit.same("as many", 0, slips(3, "2 abc", "2 acb").margin());
        Kit.same("one more", 1, slips(3, "2 abc", "3 acb").margin());
        Kit.same("the next best, not the last", 2, slips(3, "5 abc", "3 acb", "1 cab").margin());
        SecondPlace x = slips(3, "2 abc", "2 acb");
        x.habit(0, 3);
        x.habit(1, 3);
        x.years(1);
        Kit.same("in the log, too", "1 2 2", x.log(0, 1) + " " + x.log(0, 2) + " " + x.log(0, 3));
    }

    /** "in how many the same one is ELECTED by their SLIPS alone as by all": ties go to the least there, too. */
    private static void samples() {
        SecondPlace x = slips(3, "2 abc", "2 acb", "1 bac");
        // b 2, c 2, a 1: b. Sets of two: b and c: b; b and a: b; c and a: c. Of one: b alone.
        Kit.same("of one", "1 3", x.samples(1, false) + " " + x.samples(1, true));
        Kit.same("of two", "2 3", x.samples(2, false) + " " + x.samples(2, true));
        Kit.same("of all", "1 1", x.samples(3, false) + " " + x.samples(3, true));
    }

    /** "other than who is ELECTED": who is elected is no spoiler, though another one comes by its leaving. */
    private static void spoilers() {
        Kit.same("b is elected; without it another one", "1 0", slips(3, "5 abc").elected() + " " + (slips(3, "5 abc").spoilers() & 2));
        // b 5. Without a: c second for all.
        Kit.same("a spoils it for c", 1, slips(3, "5 abc").spoilers());
    }

    /** "how often another one became MAYOR": who stays it counts for nothing. */
    private static void changesOfMayor() {
        SecondPlace x = Kit.told("stand;stand;heap 1 want ab slip ab price 1",
            "give 1 if one<1 and (year<2 or year>3);give 1 if one>0 and year>1 and year<4");
        Kit.same("a a b b a a: three", "3 3 3", x.trial(6, true) + " " + x.span(6, false) + " " + x.years(6));
        Kit.same("a goes on", "0 0", x.trial(6, true) + " " + x.years(6));
        Kit.same("a twice, b in between", "10 11 2 3", x.led(0, false) + " " + x.led(0, true) + " " + x.led(1, false) + " " + x.led(1, true));
    }
}
