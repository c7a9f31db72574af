/** Promises 1 to 6: a new object, feed, end, borough, law, fault. */
public final class TextsTest {
    private static final String NO = "IllegalArgumentException";
    private static final String FULL = "UnsupportedOperationException";

    public static void main(String[] args) {
        newObject();
        feed();
        end();
        borough();
        boroughFaults();
        boroughLimits();
        law();
        lawFaults();
        lawDepth();
        refusedText();
        nothingStays();
        Kit.finish();
    }

    private static void newObject() {
        SecondPlace x = new SecondPlace();
        int[] due = {0, 0, 0, -1, 0, -1, 0, 0, 0, 0, 0};
        for (int what = 0; what < due.length; what++) {
            Kit.same("new count " + what, due[what], x.count(what));
        }
        Kit.same("new elected", -1, x.elected());
        Kit.same("new fault", -1, x.fault());
        Kit.same("new seed", 1, x.seed(7));
        Kit.same("new undo", false, x.undo());
        Kit.same("new back", false, x.back());
        Kit.same("new rests", true, x.rests());
    }

    private static void feed() {
        SecondPlace x = new SecondPlace();
        for (int i = 1; i <= 20; i++) {
            Kit.same("feed " + i, 20 * i, x.feed(0, 0, 0, 0, 0));
        }
        Kit.same("feed beyond 400", -1, x.feed(1, 2, 3, 4, 5));
        Kit.same("none came", false, x.end(401));
        Kit.same("all are there", true, x.end(381));
        Kit.same("feed to 401", -1, x.feed(0, 0, 0, 0, 0));
        Kit.same("still there", true, x.end(380));
        Kit.same("feed to 400", 400, x.feed(0, 0, 0, 0, 0));
        SecondPlace y = Kit.told("stand;stand;stand;stand;stand;heap 1 want abcde slip abcde price 1");
        y.feed(0x04030201, 0x00FF0000, 0, 0, 0);
        y.end(5);
        Kit.same("highest byte first", 4, y.write(0));
        Kit.same("so it stands", "edcba", Kit.order(y, 0, false));
    }

    private static void end() {
        SecondPlace x = new SecondPlace();
        Kit.same("end 0", true, x.end(0));
        Kit.same("end 1 of none", false, x.end(1));
        Kit.same("end below 0", false, x.end(-1));
        Kit.same("end least", false, x.end(Integer.MIN_VALUE));
        Kit.same("end most", false, x.end(Integer.MAX_VALUE));
        x.feed(0, 0, 0, 0, 0);
        Kit.same("end 20", true, x.end(20));
        Kit.same("end 21", false, x.end(21));
        Kit.same("end 7", true, x.end(7));
        Kit.same("end 8", false, x.end(8));
        Kit.same("feed behind 7", 27, x.feed(0, 0, 0, 0, 0));
    }

    private static void borough() {
        SecondPlace x = new SecondPlace();
        Kit.same("empty", 1, Kit.borough(x, ""));
        Kit.same("blanks", 2, Kit.borough(x, "     "));
        Kit.same("lines", 3, Kit.borough(x, "  stand ;stand; heap 020want ba slip ab habit3 price099;stray 100 "));
        Kit.same("the tape is used up", false, x.end(1));
        Kit.same("fault", -1, x.fault());
        Kit.same("give 0", 1, Kit.law(x, "give 0"));
        Kit.same("heap 0", "20 3 99 0 2", of(x, 0));
        Kit.same("want", "ba", Kit.order(x, 0, true));
        Kit.same("slip", "ab", Kit.order(x, 0, false));
        Kit.same("stray", 100, x.count(6));
        Kit.same("one more", 4, Kit.borough(x, "heap 1 want ab slip ba price 1;stand;heap 2 want cab slip bca habit 000 price 7"));
        Kit.same("last in wants", "bac abc cab", wantsOf(x));
        Kit.same("last on slips", "abc bac bca", slipsOf(x));
        Kit.same("heap 1", "1 0 1 0 2", of(x, 1));
        Kit.same("heap 2", "2 0 7 0 3", of(x, 2));
        Kit.same("stray stays", 100, x.count(6));
        Kit.same("stray again", 5, Kit.borough(x, "stray 3;stray 0"));
        Kit.same("stray is the last", 0, x.count(6));
    }

    private static String of(SecondPlace x, int heap) {
        return x.heap(heap, 0) + " " + x.heap(heap, 1) + " " + x.heap(heap, 2) + " " + x.heap(heap, 3) + " "
            + x.heap(heap, 5);
    }

    private static String wantsOf(SecondPlace x) {
        return Kit.order(x, 0, true) + " " + Kit.order(x, 1, true) + " " + Kit.order(x, 2, true);
    }

    private static String slipsOf(SecondPlace x) {
        return Kit.order(x, 0, false) + " " + Kit.order(x, 1, false) + " " + Kit.order(x, 2, false);
    }

    private static void wrongBorough(String text, int at) {
        SecondPlace x = new SecondPlace();
        Kit.same("wrong: " + text, NO, Kit.borough(x, text));
        Kit.same("fault of: " + text, at, x.fault());
        Kit.same("nothing stays of: " + text, "0 0 0 0", x.count(0) + " " + x.count(1) + " " + x.count(2) + " " + x.count(6));
        Kit.same("the tape is used up by: " + text, false, x.end(1));
    }

    private static void boroughFaults() {
        wrongBorough(";", 0);
        wrongBorough("stand;;stand", 6);
        wrongBorough("stand; ", 7);
        wrongBorough("stands", 0);
        wrongBorough(" Stand", 1);
        wrongBorough("stand stand", 6);
        wrongBorough("stand,stand", 5);
        wrongBorough("5", 0);
        wrongBorough("\t", 0);
        wrongBorough("stray", 5);
        wrongBorough("stray  ", 7);
        wrongBorough("stray x", 6);
        wrongBorough("stray 0000", 6);
        wrongBorough("stray -1", 6);
        wrongBorough("stray 1 2", 8);
        wrongBorough("stand;heap 0 want a slip a price 1", 11);
        wrongBorough("stand;heap 0020 want a slip a price 1", 11);
        wrongBorough("stand;heap 1 wants a slip a price 1", 13);
        wrongBorough("stand;heap 1 want", 17);
        wrongBorough("stand;heap 1 want ;", 18);
        wrongBorough("stand;heap 1 want A slip a price 1", 18);
        wrongBorough("stand;heap 1 want a a slip a price 1", 20);
        wrongBorough("stand;stand;heap 1 want aa slip ab price 1", 24);
        wrongBorough("stand;stand;heap 1 want ab slip ac price 1", 32);
        wrongBorough("stand;stand;heap 1 want ab slip b price 1", 32);
        wrongBorough("stand;heap 1 want a slip a", 26);
        wrongBorough("stand;heap 1 want a slip a habit", 32);
        wrongBorough("stand;heap 1 want a slip a habit price 1", 33);
        wrongBorough("stand;heap 1 want a slip a habit 1", 34);
        wrongBorough("stand;heap 1 want a slip a habit 1 habit 1 price 1", 35);
        wrongBorough("stand;heap 1 want a slip a price 100", 33);
        wrongBorough("stand;heap 1 want a slip a price 1 habit 1", 35);
        wrongBorough("heap 1 want slip price 1", 12);
        wrongBorough("stand;heap 1 slip a want a price 1", 13);
        wrongBorough("stand;stray 5;vote", 14);
    }

    private static void boroughLimits() {
        StringBuilder lines = new StringBuilder("stray 1");
        for (int i = 0; i < 13; i++) {
            lines.append(";stray 1");
        }
        SecondPlace x = new SecondPlace();
        Kit.same("14 lines", 1, Kit.borough(x, lines.toString()));
        wrongBorough(lines + ";", lines.length() + 1);
        wrongBorough(lines + "; stray 1", lines.length() + 2);
        wrongBorough(lines + ";tax", lines.length() + 1);
        Kit.same("6 stand", 2, Kit.borough(x, "stand;stand;stand;stand;stand;stand"));
        Kit.same("a 7th", NO, Kit.borough(x, "stray 2; stand"));
        Kit.same("at its word", 9, x.fault());
        String heap = "heap 1 want abcdef slip abcdef price 1";
        for (int i = 0; i < 8; i++) {
            Kit.same("heap " + i, i + 3, Kit.borough(x, heap));
        }
        Kit.same("a 9th heap", NO, Kit.borough(x, " heap 99"));
        Kit.same("at its word too", 1, x.fault());
    }

    private static void law() {
        SecondPlace x = Kit.told("stand;stand;stand;heap 2 want abc slip bca price 1");
        Kit.same("without a text", -1, x.count(3));
        Kit.same("second place gives", 2, x.points(2));
        Kit.same("a law", 2, Kit.law(x, " give 3if place<1 ; give 1 if not last"));
        Kit.same("its lines", 2, x.count(3));
        Kit.same("points by it", "0 8 2", x.points(0) + " " + x.points(1) + " " + x.points(2));
        Kit.same("in place of the one before", 1, Kit.law(x, "give 20"));
        Kit.same("all get 20 twice", "40 40 40", x.points(0) + " " + x.points(1) + " " + x.points(2));
        Kit.same("no line", 0, Kit.law(x, "  "));
        Kit.same("no line is a law", 0, x.count(3));
        Kit.same("that gives nothing", "0 0 0", x.points(0) + " " + x.points(1) + " " + x.points(2));
        Kit.same("wrong", NO, Kit.law(x, "give 21"));
        Kit.same("the law stays", 0, x.count(3));
        lawWords();
    }

    private static void holds(String condition, String due) {
        SecondPlace x = Kit.told("stand;stand;stand;heap 4 want abc slip bca price 1", "give 1 if " + condition);
        String got = x.points(0) / 4 + "" + x.points(1) / 4 + x.points(2) / 4;
        Kit.same("for whom holds " + condition, due, got);
    }

    private static void lawWords() {
        holds("place<1", "010");
        holds("place>0", "101");
        holds("one<1", "100");
        holds("one>first", "001");
        holds("first>0 and first<2", "111");
        holds("standing>2and standing<4", "111");
        holds("many>3 and many<5", "111");
        holds("year<1", "111");
        holds("year>0", "000");
        holds("paid", "000");
        holds("not paid", "111");
        holds("last", "100");
        holds("not last and not place<1", "001");
        holds("one+one>2", "001");
        holds("one + 1 + place < 003", "010");
        holds("999>998", "111");
        holds("one<1 or one>1 and place>1", "100");
        holds("(one<1 or one>1) and place>1", "100");
        holds("(one<2 or one>1) and place<2", "011");
        holds("one<2 or one>1 and place<1", "110");
        holds("not one<1 and one<2", "010");
        holds("not (one<1 or one>1)", "010");
        holds("not not one<1", "100");
        holds("2<2", "000");
        holds("2>2", "000");
    }

    private static void wrongLaw(String text, int at) {
        SecondPlace x = new SecondPlace();
        Kit.same("wrong: " + text, NO, Kit.law(x, text));
        Kit.same("fault of: " + text, at, x.fault());
        Kit.same("no law by: " + text, -1, x.count(3));
    }

    private static void lawFaults() {
        wrongLaw(";", 0);
        wrongLaw("give", 4);
        wrongLaw("give ", 5);
        wrongLaw("give x", 5);
        wrongLaw("give 0020", 5);
        wrongLaw("give 1;", 7);
        wrongLaw("give 1; ;", 8);
        wrongLaw("give 1 when", 7);
        wrongLaw("give 1 ifpaid", 7);
        wrongLaw("give 1 if ;", 10);
        wrongLaw("give 1 if and", 10);
        wrongLaw("give 1 if place", 15);
        wrongLaw("give 1 if place+", 16);
        wrongLaw("give 1 if place + <", 18);
        wrongLaw("give 1 if place = 1", 16);
        wrongLaw("give 1 if place <", 17);
        wrongLaw("give 1 if place < last", 18);
        wrongLaw("give 1 if place < 1 < 2", 20);
        wrongLaw("give 1 if place < 1000", 18);
        wrongLaw("give 1 if 1000 < place", 10);
        wrongLaw("give 1 if paid + 1 < 2", 15);
        wrongLaw("give 1 if paid last", 15);
        wrongLaw("give 1 if paid and", 18);
        wrongLaw("give 1 if paid or or", 18);
        wrongLaw("give 1 if paid)", 14);
        wrongLaw("give 1 if (paid;", 15);
        wrongLaw("give 1 if ()", 11);
        wrongLaw("give 1 if not", 13);
        wrongLaw("give 1 if Paid", 10);
        wrongLaw("give 1 if paid \377", 15);
        wrongLaw("void if", 7);
        wrongLaw("void 1", 5);
        wrongLaw("void;give 1;void;x", 17);
        wrongLaw("stand", 0);
    }

    private static void lawDepth() {
        SecondPlace x = new SecondPlace();
        Kit.same("6 deep", 1, Kit.law(x, "void if ((((((paid))))))"));
        Kit.same("6 deep, mixed, twice", 1, Kit.law(x, "void if not(not(not(paid)))and not(not(not(paid)))"));
        wrongLaw("void if (((((((paid)))))))", 14);
        wrongLaw("void if not(not(not( not paid)))", 21);
        wrongLaw("void if not(not(not( (paid))))", 21);
        StringBuilder lines = new StringBuilder("void");
        for (int i = 0; i < 11; i++) {
            lines.append(";void");
        }
        Kit.same("12 lines", 12, Kit.law(x, lines.toString()));
        wrongLaw(lines + ";", lines.length() + 1);
        wrongLaw(lines + "; void", lines.length() + 2);
    }

    private static void refusedText() {
        SecondPlace x = new SecondPlace();
        for (int i = 1; i <= 12; i++) {
            Kit.same("text " + i, i, Kit.borough(x, ""));
        }
        Kit.same("wrong comes first", NO, Kit.borough(x, "stand 1"));
        Kit.same("and is read", 6, x.fault());
        Kit.same("a 13th text", FULL, Kit.borough(x, "stand"));
        Kit.same("refused, but read", -1, x.fault());
        Kit.same("refused, and used up", false, x.end(1));
        Kit.same("nothing stays", "0 12", x.count(0) + " " + x.count(2));
    }

    private static void nothingStays() {
        SecondPlace x = Kit.told("stand;heap 1 want a slip a price 1");
        x.habit(0, 2);
        Kit.same("wrong late", NO, Kit.borough(x, "stand;heap 2 want ba slip ab price 2;stray 7;stand x"));
        Kit.same("as it was", "1 1 1 0 1", x.count(0) + " " + x.count(1) + " " + x.count(2) + " " + x.count(6) + " " + x.count(10));
        Kit.same("the want, too", "a", Kit.order(x, 0, true));
        Kit.same("fault", 51, x.fault());
        Kit.same("wrong law", NO, Kit.law(x, "give 1;give"));
        Kit.same("acts are still remembered", 1, x.count(10));
        Kit.same("fault of the law", 11, x.fault());
    }
}
