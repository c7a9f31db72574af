/** The bounds of the TAPE, THE BOROUGH's texts and THE LAW's (promises 2 to 6): the last that may be, the first that may not. */
public final class TextEdgesTest {
    private static final String NO = "IllegalArgumentException";
    private static final String FULL = "UnsupportedOperationException";
    private static final String HEAP = "heap 1 want a slip a price 1";

    public static void main(String[] args) {
        fullTape();
        tapeCutShort();
        bytesOfTheTape();
        numbersOfTheBorough();
        numbersOfTheLaw();
        linesOfTheBorough();
        linesOfTheLaw();
        standingTooMany();
        heapsTooMany();
        textsTooMany();
        depth();
        depthIsOfWhatIsOpen();
        orders();
        words();
        blanks();
        moreMustCome();
        nothingMayFollow();
        noLine();
        longestTexts();
        faultOfTheLatest();
        nothingStaysOfAWrongHeap();
        Kit.finish();
    }

    private static String repeated(String one, int times) {
        StringBuilder s = new StringBuilder();
        for (int i = 0; i < times; i++) {
            s.append(one);
        }
        return s.toString();
    }

    /** Behind what was told already; a right text answers how many there are, a wrong one where it is wrong. */
    private static void right(String ahead, String text) {
        SecondPlace x = Kit.told(ahead);
        Kit.same("right: " + text, 2, Kit.borough(x, text));
        Kit.same("no fault: " + text, -1, x.fault());
        Kit.same("used up: " + text, false, x.end(1));
    }

    private static void wrong(String ahead, String text, int at) {
        SecondPlace x = Kit.told(ahead);
        String before = Kit.state(x);
        Kit.same("wrong: " + text, NO, Kit.borough(x, text));
        Kit.same("fault: " + text, at, x.fault());
        Kit.same("nothing stays: " + text, before, Kit.state(x));
        Kit.same("used up: " + text, false, x.end(1));
    }

    private static void rightLaw(String text, int lines) {
        SecondPlace x = new SecondPlace();
        Kit.same("right law: " + text, lines, Kit.law(x, text));
        Kit.same("no fault of law: " + text, -1, x.fault());
        Kit.same("lines of law: " + text, lines, x.count(3));
        Kit.same("law used up: " + text, false, x.end(1));
    }

    private static void wrongLaw(String text, int at) {
        SecondPlace x = Kit.told("stand;stand;heap 3 want ab slip ba price 1", "give 2 if last");
        String before = Kit.state(x);
        Kit.same("wrong law: " + text, NO, Kit.law(x, text));
        Kit.same("fault of law: " + text, at, x.fault());
        Kit.same("the law before stays: " + text, before, Kit.state(x));
        Kit.same("law used up: " + text, false, x.end(1));
    }

    /** "NONE, and none come, if it would have more than 400". */
    private static void fullTape() {
        SecondPlace x = new SecondPlace();
        for (int i = 0; i < 19; i++) {
            x.feed(0x20202020, 0x20202020, 0x20202020, 0x20202020, 0x20202020);
        }
        Kit.same("380 and 20 are 400", 400, x.feed(0x67697665, 0x20312020, 0x20202020, 0x20202020, 0x20202020));
        Kit.same("401 would be too many", -1, x.feed(0x78787878, 0x78787878, 0x78787878, 0x78787878, 0x78787878));
        Kit.same("400 are there", true, x.end(400));
        Kit.same("none came behind, none was written over", 1, Kit.answer(() -> x.law()));
        Kit.same("the tape is empty then", 20, x.feed(0, 0, 0, 0, 0));
        for (int had = 381; had <= 400; had++) {
            SecondPlace y = new SecondPlace();
            for (int i = 0; i < 20; i++) {
                y.feed(0, 0, 0, 0, 0);
            }
            y.end(had);
            Kit.same("behind " + had, -1, y.feed(0, 0, 0, 0, 0));
            Kit.same("still " + had, "false true", y.end(had + 1) + " " + y.end(had));
        }
    }

    /** "The TAPE has its first n bytes alone: true; false, and nothing happens, if it has fewer, or n is below 0". */
    private static void tapeCutShort() {
        SecondPlace x = Kit.told("stand;stand;heap 1 want ab slip ab price 1");
        x.feed(0x01000101, 0, 0, 0, 0);
        Kit.same("as many as there are", true, x.end(20));
        Kit.same("one more than there are", false, x.end(21));
        Kit.same("below 0", false, x.end(-1));
        Kit.same("least", false, x.end(Integer.MIN_VALUE));
        Kit.same("most", false, x.end(Integer.MAX_VALUE));
        Kit.same("nothing happened", true, x.end(20));
        Kit.same("the first two", true, x.end(2));
        Kit.same("the others are gone", false, x.end(3));
        Kit.same("these are the first", 2, x.write(0));
        Kit.same("b, a", "ba", Kit.order(x, 0, false));
        Kit.same("0 of an empty tape", true, x.end(0));
        x.feed(0, 0, 0, 0, 0);
        Kit.same("0 of a full one", true, x.end(0));
        Kit.same("empty then", false, x.end(1));
        x.feed(0, 0, 0, 0, 0);
        x.end(1);
        Kit.same("behind one", 21, x.feed(0x01FFFFFF, -1, -1, -1, -1));
        x.end(2);
        Kit.same("what was cut off does not come back", 2, x.write(0));
        Kit.same("a, b", "ab", Kit.order(x, 0, false));
    }

    /** "Twenty bytes come behind the TAPE, of each number the highest first"; the sign is a bit as any other. */
    private static void bytesOfTheTape() {
        String six = "stand;stand;stand;stand;stand;stand;heap 1 want abcdef slip abcdef price 1";
        SecondPlace x = Kit.told(six);
        x.feed(0x05040302, 0x01000000, 0, 0, 0);
        x.end(6);
        Kit.same("six places", 6, x.write(0));
        Kit.same("turned about", "fedcba", Kit.order(x, 0, false));
        for (int number = 0; number < 5; number++) {
            for (int shift = 0; shift < 32; shift += 8) {
                int[] n = {0x20202020, 0x20202020, 0x20202020, 0x20202020, 0x20202020};
                n[number] = n[number] & ~(255 << shift) | 200 << shift;
                x.feed(n[0], n[1], n[2], n[3], n[4]);
                Kit.same("a byte of 200", NO, Kit.answer(() -> x.borough()));
                Kit.same("where it stands", 4 * number + (24 - shift) / 8, x.fault());
            }
        }
        x.feed(0x80000000, 0, 0, 0, 0);
        x.end(1);
        Kit.same("128 is no one", NO, Kit.answer(() -> x.write(0)));
    }

    private static void number(String ahead, String behind, int least, int most) {
        String before = "stand";
        right(before, ahead + least + behind);
        right(before, ahead + most + behind);
        right(before, ahead + (most < 10 ? "00" : most < 100 ? "0" : "") + most + behind);
        wrong(before, ahead + (most + 1) + behind, ahead.length());
        wrong(before, ahead + "0" + (most < 10 ? "00" : most < 100 ? "0" : "") + most + behind, ahead.length());
        wrong(before, ahead + "-" + most + behind, ahead.length());
        wrong(before, ahead + "999999999999" + behind, ahead.length());
        wrong(before, ahead + behind, ahead.length() + (behind.startsWith(" ") ? 1 : 0));
        if (least > 0) {
            wrong(before, ahead + (least - 1) + behind, ahead.length());
            wrong(before, ahead + "000" + behind, ahead.length());
        } else {
            right(before, ahead + "000" + behind);
        }
    }

    /** "MANY 1 to 20", "HABIT 0 to 3", "PRICE 1 to 99", "STRAY 0 to 100", "Numbers are of 1 to 3 digits". */
    private static void numbersOfTheBorough() {
        number("heap ", " want a slip a price 1", 1, 20);
        number("heap 1 want a slip a habit ", " price 1", 0, 3);
        number("heap 1 want a slip a price ", "", 1, 99);
        number("heap 1 want a slip a price ", ";stand", 1, 99);
        number("stray ", "", 0, 100);
        number("stray ", " ;stray 1", 0, 100);
        SecondPlace x = Kit.told("stand;heap 20 want a slip a habit 3 price 99;heap 1 want a slip a price 1;stray 100");
        Kit.same("the most", "20 3 99 100", x.heap(0, 0) + " " + x.heap(0, 1) + " " + x.heap(0, 2) + " " + x.count(6));
        Kit.same("the least, habit 0 without", "1 0 1", x.heap(1, 0) + " " + x.heap(1, 1) + " " + x.heap(1, 2));
        Kit.same("not PAID at first", "0 0", x.heap(0, 3) + " " + x.heap(1, 3));
        Kit.same("STRAY 0 at first", 0, Kit.told("stand").count(6));
        Kit.borough(x, "heap 007 want a slip a habit 02 price 09;stray 007");
        Kit.same("zeros ahead", "7 2 9 7", x.heap(2, 0) + " " + x.heap(2, 1) + " " + x.heap(2, 2) + " " + x.count(6));
    }

    /** "All numbers are of 1 to 3 digits (N 0 to 20)". */
    private static void numbersOfTheLaw() {
        rightLaw("give 0", 1);
        rightLaw("give 20", 1);
        rightLaw("give 020", 1);
        rightLaw("give 000", 1);
        wrongLaw("give 21", 5);
        wrongLaw("give 100", 5);
        wrongLaw("give 0000", 5);
        wrongLaw("give 0001 if paid", 5);
        wrongLaw("give -1", 5);
        wrongLaw("give if paid", 5);
        rightLaw("void if 0 < 999", 1);
        rightLaw("void if 000 < 999", 1);
        wrongLaw("void if 0000 < 1", 8);
        wrongLaw("void if 1000 < 1", 8);
        wrongLaw("void if 1 < 1000", 12);
        wrongLaw("void if 1 < 0001", 12);
        wrongLaw("void if 1 + 1000 < 1", 12);
        wrongLaw("void if 1 < 1 + 99999999999999", 16);
        SecondPlace x = Kit.told("stand;heap 3 want a slip a price 1", "give 20 if 999 + 999 > 998 + 999;give 0");
        Kit.same("20 for each of 3", 60, x.points(0));
    }

    /** "LINE { ; LINE }, at most 14". */
    private static void linesOfTheBorough() {
        String fourteen = "stray 1" + repeated(";stray 1", 13);
        right("stand", fourteen);
        wrong("stand", fourteen + ";stray 1", fourteen.length() + 1);
        wrong("stand", fourteen + ";  stand", fourteen.length() + 3);
        wrong("stand", fourteen + ";", fourteen.length() + 1);
        wrong("stand", fourteen + " ; ", fourteen.length() + 3);
        wrong("stand", fourteen + ";nonsense", fourteen.length() + 1);
        // The 14 are of one text: others have their own.
        SecondPlace x = Kit.told(fourteen);
        Kit.same("14 more", 2, Kit.borough(x, fourteen));
        // What is wrong earlier comes first.
        wrong("stand", "stray 101;" + fourteen + ";stray 1", 6);
    }

    /** "LINE { ; LINE }, at most 12". */
    private static void linesOfTheLaw() {
        String twelve = "give 1" + repeated(";void", 11);
        rightLaw(twelve, 12);
        wrongLaw(twelve + ";void", twelve.length() + 1);
        wrongLaw(twelve + "; give 1", twelve.length() + 2);
        wrongLaw(twelve + ";", twelve.length() + 1);
        wrongLaw(twelve + ";nonsense", twelve.length() + 1);
        wrongLaw("give 21;" + twelve + ";void", 5);
        SecondPlace x = Kit.told("stand;heap 1 want a slip a price 1", "give 1" + repeated(";give 1", 11));
        Kit.same("all 12 count", 12, x.points(0));
        Kit.law(x, "give 1" + repeated(";give 1", 10) + ";void");
        Kit.same("the 12th, too", "0 1", x.points(0) + " " + x.count(8));
    }

    /** "STANDING (at most 6)"; "of ... one STANDING ... too many, the first word". */
    private static void standingTooMany() {
        String six = "stand;stand;stand;stand;stand;stand";
        SecondPlace x = new SecondPlace();
        Kit.same("six", 1, Kit.borough(x, six));
        Kit.same("six stand", 6, x.count(0));
        Kit.same("a seventh", NO, Kit.borough(x, "stand"));
        Kit.same("at 0", 0, x.fault());
        wrong("stray 1", six + ";stand", 36);
        wrong("stray 1", six + "; stand x", 37);
        wrong("stand;stand;stand", "stand;stand;stand;stray 5;stand", 26);
        x.leave(5);
        Kit.same("five: one more may come", 2, Kit.borough(x, "stand"));
        Kit.same("but one alone", NO, Kit.borough(x, "stray 3;stand"));
        Kit.same("at its word", "8 6 0", x.fault() + " " + x.count(0) + " " + x.count(6));
    }

    /** "HEAPS of voters (at most 8)"; "of ... a HEAP too many, the first word". */
    private static void heapsTooMany() {
        String seven = "stand" + repeated(";" + HEAP, 7);
        SecondPlace x = Kit.told(seven);
        Kit.same("two more are one too many", NO, Kit.borough(x, HEAP + "; " + HEAP));
        Kit.same("the second", HEAP.length() + 2, x.fault());
        Kit.same("nothing stays, the eighth neither", "7 1", x.count(1) + " " + x.count(2));
        Kit.same("the eighth", 2, Kit.borough(x, HEAP));
        Kit.same("eight", 8, x.count(1));
        Kit.same("a ninth", NO, Kit.borough(x, " " + HEAP));
        Kit.same("at its word", 1, x.fault());
        Kit.same("a ninth, wrong besides", NO, Kit.borough(x, "heap 21"));
        Kit.same("at its word, too", 0, x.fault());
        Kit.same("eight are left", "8 2", x.count(1) + " " + x.count(2));
        x.leave(0);
        Kit.same("leaving takes no heap away", NO, Kit.borough(x, "stand;" + HEAP));
        Kit.same("at the heap", "6 0", x.fault() + " " + x.count(0));
    }

    /** "at most 12, one behind another"; "IllegalArgumentException: it is wrong; UnsupportedOperationException: there are 12". */
    private static void textsTooMany() {
        SecondPlace x = new SecondPlace();
        for (int i = 1; i <= 12; i++) {
            Kit.same("text " + i, i, Kit.borough(x, i == 1 ? "stand;stand;heap 2 want ab slip ab price 1" : "stray " + i));
        }
        x.habit(0, 1);
        String before = Kit.state(x);
        Kit.same("a wrong 13th", NO, Kit.borough(x, "stray 5;stray 101"));
        Kit.same("its fault", 14, x.fault());
        Kit.same("a right 13th", FULL, Kit.borough(x, "stray 5"));
        Kit.same("read, though refused", -1, x.fault());
        Kit.same("used up, though refused", false, x.end(1));
        Kit.same("an empty 13th", FULL, Kit.borough(x, ""));
        Kit.same("a 13th with one too many", NO, Kit.borough(x, repeated("stand;", 5) + "stray 0"));
        Kit.same("that one", 24, x.fault());
        Kit.same("nothing has changed, acts are remembered", before, Kit.state(x));
        Kit.same("a law is no such text", 1, Kit.law(x, "give 1"));
        Kit.same("12 texts", 12, x.count(2));
        Kit.same("wrong texts count for nothing", 1, Kit.borough(afterWrongOnes(), "stray 1"));
    }

    private static SecondPlace afterWrongOnes() {
        SecondPlace x = new SecondPlace();
        for (int i = 0; i < 13; i++) {
            Kit.same("wrong " + i, NO, Kit.borough(x, "stray"));
        }
        return x;
    }

    /** "( and not within one another at most 6 deep"; "the ( or not that is a 7th one deep". */
    private static void depth() {
        rightLaw("void if ((((((paid))))))", 1);
        rightLaw("void if not not not not not not paid", 1);
        rightLaw("void if not(not(not(paid)))", 1);
        rightLaw("void if (not(not(not paid)))", 1);
        wrongLaw("void if (((((((paid)))))))", 14);
        wrongLaw("void if not not not not not not not paid", 32);
        wrongLaw("void if not(not(not((paid))))", 20);
        wrongLaw("void if (not(not(not not paid)))", 21);
        wrongLaw("void if ((((((  (", 16);
        wrongLaw("void if (((((( not", 15);
        // Six deep nothing but another ( or not is wrong.
        rightLaw("void if ((((((paid or last) and place < 1))))) or one < 2", 1);
        wrongLaw("void if ((((((paid or (last)))))))", 22);
        wrongLaw("void if ((((((paid and not last))))))", 23);
    }

    private static void depthIsOfWhatIsOpen() {
        rightLaw("void if ((((((paid)))))) or ((((((paid)))))) and not not not not not not paid", 1);
        rightLaw("void if ((((((paid))))));void if ((((((paid))))))", 2);
        rightLaw("void if (not paid and not paid and (not(not(paid)) or not(not(paid))))", 1);
        wrongLaw("void if (paid) and (((((((paid)))))))", 25);
        SecondPlace x = Kit.told("stand;stand;heap 1 want ab slip ab price 1", "give 1 if not not not not not not last");
        Kit.same("six times not", "0 1", x.points(0) + " " + x.points(1));
        Kit.law(x, "give 1 if not(not(not(last)))");
        Kit.same("three times not", "1 0", x.points(0) + " " + x.points(1));
    }

    /** "O: a word of the letters of all who are STANDING by then, each once (a the first one)". */
    private static void orders() {
        right("stand;stand;stand", "heap 1 want cab slip bca price 1");
        wrong("stand;stand;stand", "heap 1 want ab slip abc price 1", 12);
        wrong("stand;stand;stand", "heap 1 want abcd slip abc price 1", 12);
        wrong("stand;stand;stand", "heap 1 want aba slip abc price 1", 12);
        wrong("stand;stand;stand", "heap 1 want abd slip abc price 1", 12);
        wrong("stand;stand;stand", "heap 1 want abz slip abc price 1", 12);
        wrong("stand;stand;stand", "heap 1 want abC slip abc price 1", 12);
        wrong("stand;stand;stand", "heap 1 want a bc slip abc price 1", 12);
        wrong("stand;stand;stand", "heap 1 want slip abc price 1", 12);
        wrong("stand;stand;stand", "heap 1 want 012 slip abc price 1", 12);
        wrong("stand;stand;stand", "heap 1 want abc slip bcd price 1", 21);
        wrong("stand;stand;stand", "heap 1 want abc slip ab price 1", 21);
        wrong("stand;stand;stand", "heap 1 want abc slip abca price 1", 21);
        wrong("stand;stand;stand", "heap 1 want abc slip", 20);
        // By then: ahead of another stand one letter less.
        right("stand;stand", "heap 1 want ba slip ab price 1;stand;heap 1 want cba slip cab price 1");
        wrong("stand;stand", "heap 1 want cba slip cab price 1;stand", 12);
        wrong("stand;stand", "stand;heap 1 want ba slip ab price 1", 18);
        right("stand;stand;stand;stand;stand", "stand;heap 1 want fedcba slip abcdef price 1");
        wrong("stand;stand;stand;stand;stand;stand", "heap 1 want abcdeg slip abcdef price 1", 12);
        wrong("", "heap 1 want a slip a price 1", 12);
        wrong("", "heap 1 want slip price 1", 12);
        wrong("", "heap 1 want", 11);
    }

    /** "Words are as long as a to z go on"; "a word that is none". */
    private static void words() {
        right("stand", "heap 1want a slip a habit1price1;stray0;stand");
        wrong("stand", "stands", 0);
        wrong("stand", "stan", 0);
        wrong("stand", "xtand", 0);
        wrong("stand", "ttand", 0);
        wrong("stand", "yeap 1 want a slip a price 1", 0);
        wrong("stand", "heap 1 vant a slip a price 1", 7);
        wrong("stand", "heap 1 want a flip a price 1", 14);
        wrong("stand", "heap 1 want a slip a rabit 1 price 1", 21);
        wrong("stand", "heap 1 want a slip a grice 1", 21);
        wrong("stand", "standstand", 0);
        wrong("stand", "Stand", 0);
        wrong("stand", "stanD", 0);
        wrong("stand", "heaps 1", 0);
        wrong("stand", "hea", 0);
        wrong("stand", "heap1 wanta slip a price 1", 6);
        wrong("stand", "heap 1 want a slipa price 1", 14);
        wrong("stand", "heap 1 want a price 1", 14);
        wrong("stand", "heap 1 want a slip a habits 1 price 1", 21);
        wrong("stand", "heap 1 want a slip a prices 1", 21);
        wrong("stand", "heap 1 want a slip a price 1 habit 1", 29);
        wrong("stand", "straying 1", 0);
        wrong("stand", "give 1", 0);
        wrong("stand", "stand;void", 6);
        rightLaw("give 1if place<1and not(paid)or last", 1);
        wrongLaw("gives 1", 0);
        wrongLaw("giv 1", 0);
        wrongLaw("live 1", 0);
        wrongLaw("avid", 0);
        wrongLaw("void of paid", 5);
        wrongLaw("void if laid", 8);
        wrongLaw("void if past", 8);
        wrongLaw("void if glace < 1", 8);
        wrongLaw("void if ant paid", 8);
        wrongLaw("void if paid ar last", 13);
        wrongLaw("void if paid end last", 13);
        wrongLaw("voidif paid", 0);
        wrongLaw("void ifpaid", 5);
        wrongLaw("void iff paid", 5);
        wrongLaw("void if notpaid", 8);
        wrongLaw("void if paidor last", 8);
        wrongLaw("void if paid orlast", 13);
        wrongLaw("void if paid andlast", 13);
        wrongLaw("void if places < 1", 8);
        wrongLaw("void if placeone < 1", 8);
        wrongLaw("void if place < ones", 16);
        wrongLaw("void if PAID", 8);
        wrongLaw("void if voters < 1", 8);
        wrongLaw("give a", 5);
        wrongLaw("heap 1", 0);
    }

    /** "between all there may be blanks (32), also ahead and behind"; no other sign is one. */
    private static void blanks() {
        right("stand", "   stand  ;  heap   1   want  ba   slip  ab   habit  1   price  1  ;  stray   5   ");
        rightLaw("  give  5  if  (  place  <  1  +  one  )  and  not  paid  ;  void  if  last  ", 2);
        rightLaw("give 5if(place<1+one)and not paid;void if last", 2);
        int[] others = {0, 9, 10, 11, 12, 13, 31, 33, 95, 127, 128, 160, 255};
        for (int sign : others) {
            String s = String.valueOf((char) sign);
            wrong("stand", s, 0);
            wrong("stand", s + "stand", 0);
            wrong("stand", "stand" + s, 5);
            wrong("stand", "stand;" + s + "stand", 6);
            wrong("stand", "stray" + s + "5", 5);
            wrong("stand", "stray 5" + s, 7);
            wrongLaw("give" + s + "5", 4);
            wrongLaw("give 5 if place" + s + "< 1", 15);
            wrongLaw("give 5" + s, 6);
            wrongLaw(s, 0);
        }
        wrong("stand", "st and", 0);
        wrong("stand", "stray 1 0", 8);
        wrongLaw("give 1 0", 7);
        wrongLaw("void if pl ace < 1", 8);
    }

    /** "or the text's length, if more must come": every beginning of a right text that cannot end there. */
    private static void moreMustCome() {
        String text = "heap 12 want ab slip ba habit 1 price 34";
        int[] ends = {4, 5, 7, 8, 12, 13, 15, 16, 20, 21, 23, 24, 29, 30, 31, 32, 37, 38};
        for (int end : ends) {
            wrong("stand;stand", text.substring(0, end), end);
            wrong("stand;stand", text.substring(0, end) + "  ", end + 2);
        }
        right("stand;stand", text.substring(0, 39));
        right("stand;stand", text.substring(0, 40));
        wrong("stand;stand", text + ";", 41);
        wrong("stand;stand", text + "; ", 42);
        wrong("stand;stand", "stray", 5);
        wrong("stand;stand", "stray ", 6);
        String law = "give 12 if not ( place + 3 < one and paid ) or last > 5";
        int[] lawEnds = {4, 5, 10, 11, 14, 15, 16, 17, 22, 23, 24, 25, 26, 27, 28, 29, 32, 33, 36, 37, 41, 42, 46, 47};
        for (int end : lawEnds) {
            wrongLaw(law.substring(0, end), end);
            wrongLaw(law.substring(0, end) + " ", end + 1);
        }
        wrongLaw(law, 52);
        rightLaw(law.substring(0, 51), 1);
        rightLaw(law.substring(0, 43), 1);
        rightLaw(law.substring(0, 7), 1);
        wrongLaw(law.substring(0, 43) + ";", 44);
        wrongLaw(law.substring(0, 43) + "; ", 45);
    }

    /** "the begin of the first thing that cannot stand there". */
    private static void nothingMayFollow() {
        wrong("stand", "stand stand", 6);
        wrong("stand", "stand 2", 6);
        wrong("stand", "stray 1 stray 1", 8);
        wrong("stand", HEAP + " price 1", HEAP.length() + 1);
        wrong("stand", HEAP + ",stand", HEAP.length());
        wrong("stand", "stand;;stand", 6);
        wrong("stand", " ; stand", 1);
        wrong("stand", "(stand)", 0);
        wrongLaw("give 1 give 1", 7);
        wrongLaw("give 1;;give 1", 7);
        wrongLaw("void void", 5);
        wrongLaw("void if paid)", 12);
        wrongLaw("void if (paid))", 14);
        wrongLaw("void if (paid last)", 14);
        wrongLaw("void if (paid;last)", 13);
        wrongLaw("void if paid < 1", 13);
        wrongLaw("void if last > 1", 13);
        wrongLaw("void if 1 < paid", 12);
        wrongLaw("void if 1 < not 1", 12);
        wrongLaw("void if 1 < (1)", 12);
        wrongLaw("void if (1) < 1", 10);
        wrongLaw("void if (1 < 2) + 1 < 3", 16);
        wrongLaw("void if 1 < 2 < 3", 14);
        wrongLaw("void if 1 <= 2", 11);
        wrongLaw("void if 1 + + 2 < 3", 12);
        wrongLaw("void if + 1 < 2", 8);
        wrongLaw("void if 1 - 1 < 2", 10);
        wrongLaw("void if or paid", 8);
        wrongLaw("void if paid and or last", 17);
        wrongLaw("void if paid and", 16);
        wrongLaw("void if if paid", 8);
        wrongLaw("void if paid if last", 13);
    }

    /** "A text that is empty, or blanks alone, has no LINE". */
    private static void noLine() {
        SecondPlace x = new SecondPlace();
        Kit.same("empty", 1, Kit.borough(x, ""));
        Kit.same("a blank", 2, Kit.borough(x, " "));
        Kit.same("400 blanks", 3, Kit.borough(x, repeated(" ", 400)));
        Kit.same("nobody came", "0 0 0 -1", x.count(0) + " " + x.count(1) + " " + x.count(6) + " " + x.fault());
        SecondPlace y = Kit.told("stand;stand;heap 3 want ab slip ab price 1");
        Kit.same("without a text MANY at place 1, and no LINES", "0 3 -1", y.points(0) + " " + y.points(1) + " " + y.count(3));
        Kit.same("an empty law", 0, Kit.law(y, ""));
        Kit.same("gives nothing, voids nothing", "0 0 0 0", y.points(0) + " " + y.points(1) + " " + y.count(3) + " " + y.count(8));
        Kit.same("a law of blanks", 0, Kit.law(y, repeated(" ", 400)));
        Kit.same("no fault", -1, y.fault());
    }

    /** A text may be as long as the TAPE. */
    private static void longestTexts() {
        String blanks = repeated(" ", 395);
        SecondPlace x = new SecondPlace();
        Kit.same("stand at the end", 1, Kit.borough(x, blanks + "stand"));
        Kit.same("stands", 1, x.count(0));
        Kit.same("wrong at its end", NO, Kit.borough(x, blanks + "stray"));
        Kit.same("the length", 400, x.fault());
        Kit.same("wrong in its last byte", NO, Kit.borough(x, repeated(" ", 394) + "stand5"));
        Kit.same("the last byte", 399, x.fault());
        Kit.same("a long law", NO, Kit.law(x, repeated(" ", 396) + "give"));
        Kit.same("its length", 400, x.fault());
        String sum = "give 1 if 0" + repeated("+1", 190) + "<190";
        Kit.same("a long sum", 1, Kit.law(x, sum));
        Kit.borough(x, "heap 1 want a slip a price 1");
        Kit.same("190 is not below 190", 0, x.points(0));
        Kit.law(x, sum.replace("<190", "<191"));
        Kit.same("but below 191", 1, x.points(0));
        Kit.same("a long or", 1, Kit.law(x, "give 1 if paid" + repeated(" or paid", 47) + " or 0<1"));
        Kit.same("the last one holds", 1, x.points(0));
        Kit.same("a long and", 1, Kit.law(x, "give 1 if last" + repeated(" and last", 42)));
        Kit.same("all hold", 1, x.points(0));
        StringBuilder deep = new StringBuilder("give 1 if ");
        for (int i = 0; i < 6; i++) {
            deep.append("paid or last and 1<1+(");
        }
        Kit.same("a sum takes no (", NO, Kit.law(x, deep.toString()));
        Kit.same("there", 31, x.fault());
        String nested = repeated("paid or last and (", 6) + "1+1<1+1+1" + repeated(")", 6);
        Kit.same("six deep with something open at each", 1, Kit.law(x, "give 1 if " + nested));
        Kit.same("it holds", 1, x.points(0));
    }

    /** "The first wrong byte of the latest text that was read; NONE without one, and ahead of any". */
    private static void faultOfTheLatest() {
        SecondPlace x = new SecondPlace();
        Kit.same("ahead of any", -1, x.fault());
        Kit.borough(x, "stand;vote");
        Kit.same("of a borough's", 6, x.fault());
        Kit.law(x, "give 1;tax");
        Kit.same("of a law's", 7, x.fault());
        Kit.borough(x, "stand;heap 1 want a slip a price 1");
        Kit.same("none", -1, x.fault());
        Kit.law(x, "x");
        Kit.same("at 0", 0, x.fault());
        Kit.write(x, 0, 7);
        Kit.same("a slip is no text", 0, x.fault());
        x.habit(0, 1);
        x.undo();
        x.image();
        x.back();
        x.years(1);
        Kit.same("nor is anything else", 0, x.fault());
        Kit.law(x, "void");
        Kit.same("none again", -1, x.fault());
    }

    /** "Of a wrong text nothing stays": a heap told later has its own HABIT (0 without), and is not PAID. */
    private static void nothingStaysOfAWrongHeap() {
        SecondPlace x = Kit.told("stand;stand;heap 1 want ab slip ba price 1");
        Kit.same("wrong behind its habit", NO, Kit.borough(x, "heap 20 want ba slip ba habit 3 price 0"));
        Kit.same("a right one without", 2, Kit.borough(x, "heap 2 want ab slip ab price 5"));
        Kit.same("habit 0", "2 0 5 0 ab ab", x.heap(1, 0) + " " + x.heap(1, 1) + " " + x.heap(1, 2) + " " + x.heap(1, 3) + " "
            + Kit.order(x, 1, true) + " " + Kit.order(x, 1, false));
        Kit.same("wrong in a later line", NO, Kit.borough(x, "heap 20 want ba slip ba habit 2 price 9;stray 50;stand;stand;x"));
        Kit.same("the want is of two still", "ab 2 0", Kit.order(x, 0, true) + " " + x.count(0) + " " + x.count(6));
        x.image();
        Kit.same("a third heap", 3, Kit.borough(x, "heap 7 want ba slip ab habit 1 price 2"));
        x.pay(2, 0);
        x.spoilers();
        x.trial(1, true);
        x.pay(1, 1);
        x.spoilers();
        x.back();
        Kit.same("another third heap", 3, Kit.borough(x, "heap 3 want ab slip ab price 4"));
        Kit.same("is not paid", "3 0 4 0", x.heap(2, 0) + " " + x.heap(2, 1) + " " + x.heap(2, 2) + " " + x.heap(2, 3));
        Kit.same("nor is the second", 0, x.heap(1, 3));
    }
}
