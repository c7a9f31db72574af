/** What is full, goes round or comes to its most: YEAR, SEED, THE LOG, the acts that are remembered, THE IMAGE, a full borough. */
public final class LimitsTest {
    private static final String NO = "IllegalArgumentException";
    private static final String OUT = "IndexOutOfBoundsException";
    private static final String THREE = "stand;stand;stand;heap 5 want abc slip abc price 2;"
        + "heap 4 want bca slip bca habit 1 price 3;heap 3 want cab slip acb habit 2 price 1";

    public static void main(String[] args) {
        lastYears();
        yearInTheLaw();
        yearsOfACall();
        seedGoesRound();
        drawsBits();
        strayLeastAndMost();
        logRound();
        logLed();
        actsRound();
        actsUndoneAndDone();
        actsThatChangeNothing();
        noActs();
        actsForgotten();
        undoLeavesAlone();
        imageOfAll();
        backLeavesAlone();
        backWithoutImage();
        fullBorough();
        fullBoroughInTime();
        fullBoroughLeaves();
        fullLaw();
        whats();
        extremePlaces();
        Kit.finish();
    }

    private static SecondPlace inYear9990(String law) {
        SecondPlace x = Kit.told("stand;stand;heap 2 want ab slip ab price 1", law);
        for (int i = 0; i < 166; i++) {
            x.years(60);
        }
        x.years(30);
        Kit.same("year 9990", 9990, x.count(4));
        return x;
    }

    /** "YEAR is 1 more (9999 at most)". */
    private static void lastYears() {
        SecondPlace x = inYear9990("give 1");
        x.years(8);
        Kit.same("9998", "9998 9997", x.count(4) + " " + x.log(0, 0));
        x.years(1);
        Kit.same("9999", "9999 9998", x.count(4) + " " + x.log(0, 0));
        x.years(1);
        Kit.same("9999 at most", "9999 9999", x.count(4) + " " + x.log(0, 0));
        x.years(60);
        Kit.same("9999 still", "9999 9999 9999", x.count(4) + " " + x.log(0, 0) + " " + x.log(59, 0));
        Kit.same("led in 9999", "60 9999", x.led(0, false) + " " + x.led(0, true));
        x.undo();
        x.undo();
        Kit.same("undone", "9999 9998", x.count(4) + " " + x.log(0, 0));
        x.undo();
        Kit.same("undone, too", "9998 9997", x.count(4) + " " + x.log(0, 0));
    }

    /** The law's year in the last years, now, ahead and in trials. */
    private static void yearInTheLaw() {
        String sum = "999+999+999+999+999+999+999+999+999+999+7";
        // 9997 is the sum: b gets it in 9998 and 9999, a until 9997.
        SecondPlace x = inYear9990("give 1 if one>0 and year>" + sum + ";give 1 if one<1 and not year>" + sum);
        Kit.same("a for seven years more", "0 0", x.ahead(7) + " " + x.trial(8, false));
        Kit.same("then b", "1 1 1", x.ahead(9) + " " + x.ahead(40) + " " + x.trial(40, false));
        Kit.same("b came once", "0 1 1 1", x.trial(8, true) + " " + x.trial(9, true) + " " + x.trial(40, true) + " " + x.span(40, true));
        x.years(7);
        Kit.same("9997: a", "9997 0", x.count(4) + " " + x.elected());
        Kit.same("by the year ahead of 1 more", "0 0", x.years(1) + " " + x.count(5));
        Kit.same("9998: b", "9998 1", x.count(4) + " " + x.elected());
        Kit.same("b is mayor", "1 1", x.years(1) + " " + x.count(5));
        Kit.law(x, "give 1 if one>0 and year>999+999+999+999+999+999+999+999+999+999+8;give 1 if one<1");
        Kit.same("9999 is above 9998", "1 1", x.points(0) / 2 + " " + x.points(1) / 2);
        Kit.law(x, "give 1 if one>0 and year>999+999+999+999+999+999+999+999+999+999+9;give 1 if one<1");
        x.years(3);
        Kit.same("and never above 9999", "1 0 9999", x.points(0) / 2 + " " + x.points(1) / 2 + " " + x.count(4));
    }

    /** "So many YEARS more (1 to 60)"; "N YEARS (0 to 40)". */
    private static void yearsOfACall() {
        SecondPlace x = Kit.told(THREE);
        Kit.due("0", NO, () -> x.years(0));
        Kit.due("61", NO, () -> x.years(61));
        Kit.same("none came", "0 0 0", x.count(4) + " " + x.count(9) + " " + x.count(10));
        Kit.due("1", 1, () -> x.years(1));
        Kit.same("one came", "1 1 1", x.count(4) + " " + x.count(9) + " " + x.count(10));
        Kit.due("60", 0, () -> x.years(60));
        Kit.same("60 came", "61 60 2", x.count(4) + " " + x.count(9) + " " + x.count(10));
        String before = Kit.state(x);
        Kit.due("ahead 40", 1, () -> x.ahead(40));
        Kit.due("ahead 0", 1, () -> x.ahead(0));
        Kit.due("ahead 41", NO, () -> x.ahead(41));
        Kit.due("ahead -1", NO, () -> x.ahead(-1));
        Kit.due("trial 40", 1, () -> x.trial(40, false));
        Kit.due("trial 0", 0, () -> x.trial(0, true));
        Kit.due("trial 41", NO, () -> x.trial(41, true));
        Kit.due("trial -1", NO, () -> x.trial(-1, true));
        Kit.due("span 40", 0, () -> x.span(40, true));
        Kit.due("span 0", 0, () -> x.span(0, true));
        Kit.due("span 41", NO, () -> x.span(41, true));
        Kit.due("span -1", NO, () -> x.span(-1, true));
        x.settles();
        x.round();
        Kit.same("nothing stays", before, Kit.state(x));
    }

    /** "SEED is 1103515245 times SEED and 12345, as an int that goes round". */
    private static void seedGoesRound() {
        int[] from = {1, 0, -1, 2, Integer.MAX_VALUE, Integer.MIN_VALUE, 65536, -65536, 123456789, 1103527590};
        int[] to = {1103527590, 12345, -1103502900, -2087924461, -1103502900 + Integer.MIN_VALUE, 12345 + Integer.MIN_VALUE,
            1315778617, -1315753927, 1103527590, -1916057191};
        for (int i = 0; i < from.length; i++) {
            SecondPlace x = Kit.told("stand;heap 1 want a slip a price 1");
            x.seed(from[i]);
            x.years(1);
            int due = (int) ((1103515245L * from[i] + 12345L) & 0xFFFFFFFFL);
            Kit.same("seed behind " + from[i], due, x.seed(5));
            Kit.same("seed behind that", 5, x.seed(from[i]));
            if (i < 6) {
                Kit.same("as written out, behind " + from[i], to[i], due);
            }
        }
    }

    private static boolean strays(int seed, int stray) {
        SecondPlace x = Kit.told("stand;stand;heap 1 want ab slip ab price 1;stray " + stray);
        x.seed(seed);
        x.years(1);
        return Kit.order(x, 0, false).equals("ba");
    }

    /** "bits 16 to 30": the sign is none of them; "if DRAW modulo 100 is below STRAY". */
    private static void drawsBits() {
        int negative = 0;
        for (int seed : new int[] {-7, -1, 0, 1, 2, 3, 17, 4711, 99999999, Integer.MAX_VALUE, Integer.MIN_VALUE}) {
            long next = 1103515245L * seed + 12345L & 0xFFFFFFFFL;
            int draw = (int) (next / 65536 % 32768 % 100);
            negative += next >= 0x80000000L ? 1 : 0;
            Kit.same("of seed " + seed + " not below " + draw, false, strays(seed, draw));
            Kit.same("of seed " + seed + " below " + (draw + 1), true, strays(seed, draw + 1));
        }
        Kit.same("some of these seeds go below 0", true, negative > 2);
    }

    /** "STRAY 0 to 100": by 0 none strays, by 100 all do. */
    private static void strayLeastAndMost() {
        SecondPlace x = Kit.told("stand;stand;stand;stray 0;heap 1 want abc slip abc price 1;heap 1 want abc slip abc price 1");
        SecondPlace y = Kit.told("stand;stand;stand;stray 100;heap 1 want abc slip abc price 1;heap 1 want abc slip abc habit 3 price 1");
        for (int i = 1; i <= 25; i++) {
            x.years(1);
            y.years(1);
            Kit.same("none strays " + i, "abc abc", Kit.order(x, 0, false) + " " + Kit.order(x, 1, false));
            String kept = i % 2 == 1 ? "cba" : "abc";
            Kit.same("all stray " + i, "cba " + kept, Kit.order(y, 0, false) + " " + Kit.order(y, 1, false));
        }
        Kit.same("wants stay", "abc abc", Kit.order(y, 0, true) + " " + Kit.order(y, 1, true));
    }

    /** "the latest 60 YEARS"; "- 99 without". */
    private static void logRound() {
        SecondPlace x = Kit.told(THREE);
        Kit.same("no rows", "0 -99 -99", x.count(9) + " " + x.log(0, 0) + " " + x.log(0, 3));
        x.years(59);
        Kit.same("59 rows", "59 58 0 -99", x.count(9) + " " + x.log(0, 0) + " " + x.log(58, 0) + " " + x.log(59, 0));
        x.years(1);
        Kit.same("60 rows", "60 59 0 -99", x.count(9) + " " + x.log(0, 0) + " " + x.log(59, 0) + " " + x.log(60, 0));
        x.years(1);
        Kit.same("the 61st year", "60 60 1 -99", x.count(9) + " " + x.log(0, 0) + " " + x.log(59, 0) + " " + x.log(60, 0));
        x.years(60);
        Kit.same("60 others", "60 120 61 -99", x.count(9) + " " + x.log(0, 0) + " " + x.log(59, 0) + " " + x.log(60, 0));
        Kit.same("no such rows", "-99 -99 -99 -99", x.log(-1, 0) + " " + x.log(Integer.MIN_VALUE, 1) + " "
            + x.log(Integer.MAX_VALUE, 2) + " " + x.log(61, 3));
        for (int ago = 0; ago < 60; ago++) {
            Kit.same("row " + ago, 120 - ago, x.log(ago, 0));
        }
        x.undo();
        Kit.same("undone", "60 60 1 -99", x.count(9) + " " + x.log(0, 0) + " " + x.log(59, 0) + " " + x.log(60, 0));
        x.undo();
        Kit.same("undone again", "60 59 0", x.count(9) + " " + x.log(0, 0) + " " + x.log(59, 0));
        x.undo();
        Kit.same("59 rows again", "59 58 -99", x.count(9) + " " + x.log(0, 0) + " " + x.log(59, 0));
    }

    /** "how many rows of THE LOG have one as MAYOR": rows that fell out count no longer. */
    private static void logLed() {
        SecondPlace x = Kit.told("stand;stand;heap 1 want ab slip ab price 1", "give 1 if one>0 and year<1;give 1 if one<1 and year>0 and year<62;"
            + "give 1 if one>0 and year>61");
        x.years(1);
        Kit.same("b in year 0", "0 -1 1 0", x.led(0, false) + " " + x.led(0, true) + " " + x.led(1, false) + " " + x.led(1, true));
        x.years(59);
        Kit.same("a in 1 to 59", "59 59 1 0", x.led(0, false) + " " + x.led(0, true) + " " + x.led(1, false) + " " + x.led(1, true));
        x.years(1);
        Kit.same("year 0 is out", "60 60 0 -1", x.led(0, false) + " " + x.led(0, true) + " " + x.led(1, false) + " " + x.led(1, true));
        x.years(3);
        Kit.same("b in 62 and 63", "58 61 2 63", x.led(0, false) + " " + x.led(0, true) + " " + x.led(1, false) + " " + x.led(1, true));
    }

    /** "12 are remembered". */
    private static void actsRound() {
        SecondPlace x = Kit.told("stand;stand;stand;heap 1 want abc slip abc price 1");
        for (int i = 1; i <= 11; i++) {
            x.years(1);
            Kit.same("acts " + i, i, x.count(10));
        }
        x.years(1);
        Kit.same("12 acts", 12, x.count(10));
        x.years(1);
        Kit.same("12 of 13", "12 13", x.count(10) + " " + x.count(4));
        for (int i = 0; i < 12; i++) {
            Kit.same("undone " + i, true, x.undo());
            Kit.same("year then", 12 - i + " " + (11 - i), x.count(4) + " " + x.count(10));
        }
        Kit.same("the first one stays done", "false 1 1", x.undo() + " " + x.count(4) + " " + x.count(9));
    }

    /** "the latest ACT not undone yet": others may be done behind those undone. */
    private static void actsUndoneAndDone() {
        SecondPlace x = Kit.told("stand;stand;stand;heap 1 want abc slip abc price 1");
        for (int i = 0; i < 40; i++) {
            x.years(1);
        }
        for (int i = 0; i < 5; i++) {
            x.undo();
        }
        Kit.same("seven are left", "7 35", x.count(10) + " " + x.count(4));
        x.habit(0, 3);
        x.want(0, 0, 2);
        Kit.same("nine", 9, x.count(10));
        for (int i = 0; i < 6; i++) {
            x.habit(0, i % 4);
        }
        Kit.same("no more than 12", 12, x.count(10));
        for (int i = 0; i < 6; i++) {
            x.undo();
        }
        Kit.same("habits undone", "3 cba 6", x.heap(0, 1) + " " + Kit.order(x, 0, true) + " " + x.count(10));
        x.undo();
        Kit.same("want undone", "3 abc 5", x.heap(0, 1) + " " + Kit.order(x, 0, true) + " " + x.count(10));
        x.undo();
        Kit.same("habit undone", "0 35 4", x.heap(0, 1) + " " + x.count(4) + " " + x.count(10));
        for (int i = 0; i < 4; i++) {
            x.undo();
        }
        Kit.same("four of the seven were left", "31 0 false", x.count(4) + " " + x.count(10) + " " + x.undo());
    }

    /** "YEARS (each also if it changes nothing)". */
    private static void actsThatChangeNothing() {
        SecondPlace x = Kit.told("stand;stand;heap 1 want ab slip ab price 1");
        Kit.same("the same slip", "0 1", Kit.write(x, 0, 0, 1) + " " + x.count(10));
        Kit.same("the same habit", "0 2", x.habit(0, 0) + " " + x.count(10));
        Kit.same("a year", "1 3", x.years(1) + " " + x.count(10));
        Kit.same("sixty years are one", "0 4", x.years(60) + " " + x.count(10));
        Kit.same("want", "1 5", x.want(0, 0, 1) + " " + x.count(10));
        Kit.same("pay", "1 6", x.pay(0, 0) + " " + x.count(10));
        Kit.same("leave", "1 7", x.leave(1) + " " + x.count(10));
        for (int left = 6; left >= 0; left--) {
            Kit.same("undone", "true " + left, x.undo() + " " + x.count(10));
        }
    }

    /** What is no ACT is not remembered, and not undone. */
    private static void noActs() {
        SecondPlace x = Kit.told(THREE);
        x.seed(5);
        x.image();
        x.feed(0, 0, 0, 0, 0);
        x.end(0);
        x.writes(0, 2, 0);
        x.ahead(3);
        x.trial(3, true);
        x.span(3, true);
        x.spoilers();
        x.settles();
        Kit.same("none", "0 false", x.count(10) + " " + x.undo());
        x.habit(0, 2);
        x.seed(9);
        Kit.same("one", "1 true", x.count(10) + " " + x.undo());
        Kit.same("SEED, too", 5, x.seed(6));
        x.years(1);
        Kit.same("a year draws", false, x.seed(6) == 6);
        x.undo();
        Kit.same("as ahead of it", 6, x.seed(6));
    }

    /** "A text, going back: none are remembered". */
    private static void actsForgotten() {
        SecondPlace x = Kit.told(THREE);
        x.image();
        x.habit(0, 2);
        x.habit(0, 3);
        Kit.borough(x, "stray 101");
        Kit.law(x, "give 21");
        Kit.same("wrong texts leave them", 2, x.count(10));
        Kit.borough(x, "");
        Kit.same("a text", "0 false 3", x.count(10) + " " + x.undo() + " " + x.heap(0, 1));
        x.habit(0, 1);
        Kit.law(x, "give 1");
        Kit.same("a law", "0 false 1", x.count(10) + " " + x.undo() + " " + x.heap(0, 1));
        x.habit(0, 2);
        Kit.same("going back", "true 0 false 0", x.back() + " " + x.count(10) + " " + x.undo() + " " + x.heap(0, 1));
        for (int i = 0; i < 14; i++) {
            x.habit(0, i % 4);
        }
        Kit.borough(x, "");
        x.habit(0, 2);
        Kit.same("one behind a text", "1 true false 1", x.count(10) + " " + x.undo() + " " + x.undo() + " " + x.heap(0, 1));
    }

    /** "all is as ahead of it (SEED, too; but for the TAPE, fault(), THE IMAGE)". */
    private static void undoLeavesAlone() {
        SecondPlace x = Kit.told(THREE);
        x.habit(0, 1);
        x.image();
        Kit.law(x, "give 1;x");
        Kit.feedBytes(x, new byte[] {2, 1, 0});
        x.undo();
        Kit.same("fault stays", 7, x.fault());
        Kit.same("the tape stays", "false true", x.end(4) + " " + x.end(3));
        Kit.same("the slip on it", 2, x.write(0));
        Kit.same("undone to 0", 0, x.heap(0, 1));
        Kit.same("the image stays", "true 1", x.back() + " " + x.heap(0, 1));
        SecondPlace y = Kit.told(THREE);
        Kit.write(y, 0, 2, 1, 0);
        y.undo();
        Kit.same("a slip does not come back to the tape", false, y.end(1));
        SecondPlace z = Kit.told(THREE);
        z.habit(0, 1);
        z.image();
        z.undo();
        z.years(1);
        z.undo();
        Kit.same("an image stays kept", true, z.back());
    }

    /** "THE IMAGE (one) of all may be kept, and gone back to": STANDING, HEAPS, law, texts, log, SEED, PAID, MAYOR, YEAR, STRAY. */
    private static void imageOfAll() {
        SecondPlace x = Kit.told(THREE + ";stray 20", "give 2 if last;void if many>4 and paid");
        x.years(3);
        x.pay(0, 1);
        x.seed(77);
        x.image();
        String before = Kit.state(x).replaceFirst("counts( -?\\d+){11}", "");
        Kit.same("an act is still remembered", 2, x.count(10));
        x.leave(1);
        Kit.borough(x, "stand;stand;heap 9 want dcba slip abcd habit 3 price 9;stray 3");
        Kit.law(x, "");
        x.years(60);
        x.seed(5);
        Kit.same("back", true, x.back());
        Kit.same("all as it was", before, Kit.state(x).replaceFirst("counts( -?\\d+){11}", ""));
        Kit.same("counts, too", "3 3 1 2 3 20 12 1 3 0", x.count(0) + " " + x.count(1) + " " + x.count(2) + " " + x.count(3) + " "
            + x.count(4) + " " + x.count(6) + " " + x.count(7) + " " + x.count(8) + " " + x.count(9) + " " + x.count(10));
        x.leave(0);
        Kit.same("back a second time", "true 3", x.back() + " " + x.count(0));
        x.leave(0);
        x.image();
        x.leave(0);
        Kit.same("one image: the latest", "true 2 true 2", x.back() + " " + x.count(0) + " " + x.back() + " " + x.count(0));
        SecondPlace nobody = new SecondPlace();
        nobody.image();
        Kit.borough(nobody, THREE);
        Kit.law(nobody, "give 1");
        Kit.same("an image of nobody", "true 0 0 0 -1", nobody.back() + " " + nobody.count(0) + " " + nobody.count(1) + " "
            + nobody.count(2) + " " + nobody.count(3));
        for (int i = 1; i <= 12; i++) {
            Kit.same("texts count anew " + i, i, Kit.borough(nobody, ""));
        }
        Kit.same("up to 12", "UnsupportedOperationException", Kit.borough(nobody, ""));
    }

    /** "(but for the TAPE, fault() and THE IMAGE itself)". */
    private static void backLeavesAlone() {
        SecondPlace x = Kit.told(THREE);
        x.image();
        Kit.law(x, "give 1;x");
        Kit.feedBytes(x, new byte[] {2, 1, 0});
        Kit.same("back", true, x.back());
        Kit.same("fault stays", 7, x.fault());
        Kit.same("the tape stays", "false true", x.end(4) + " " + x.end(3));
        Kit.same("the slip on it", 2, x.write(0));
        SecondPlace y = Kit.told(THREE);
        Kit.feedBytes(y, new byte[] {2, 1, 0});
        y.image();
        y.end(0);
        y.back();
        Kit.same("the image has no tape", false, y.end(1));
        Kit.law(y, "x");
        y.image();
        Kit.law(y, "void");
        y.back();
        Kit.same("nor a fault", "-1 -1", y.fault() + " " + y.count(3));
    }

    /** "false, and nothing happens, if none was kept". */
    private static void backWithoutImage() {
        SecondPlace x = Kit.told(THREE, "give 1 if last");
        x.years(2);
        x.habit(0, 2);
        Kit.feedBytes(x, new byte[] {2, 1, 0});
        String before = Kit.state(x);
        Kit.same("none", "false false", x.back() + " " + x.back());
        Kit.same("nothing happens", before, Kit.state(x));
        Kit.same("the tape, neither", 2, x.write(0));
        Kit.same("acts can be undone", "3 true true true false", x.count(10) + " " + x.undo() + " " + x.undo() + " " + x.undo() + " " + x.undo());
    }

    private static SecondPlace full() {
        SecondPlace x = Kit.told("stand;stand;stand;stand;stand;stand");
        for (int i = 0; i < 8; i++) {
            Kit.borough(x, "heap 20 want fedcba slip abcdef habit 3 price 99");
        }
        return x;
    }

    /** Six STANDING, eight HEAPS of twenty. */
    private static void fullBorough() {
        SecondPlace x = full();
        Kit.same("counts", "6 8 9 160", x.count(0) + " " + x.count(1) + " " + x.count(2) + " " + x.count(7));
        Kit.same("points", "0 160 0", x.points(0) + " " + x.points(1) + " " + x.points(5));
        Kit.same("elected, margin", "1 160", x.elected() + " " + x.margin());
        Kit.same("harm", "800 0 640", x.harm(0) + " " + x.harm(5) + " " + x.least(true));
        Kit.same("by", "0 1 0 0 0 0", x.by(0, false) + " " + x.by(1, false) + " " + x.by(2, false) + " " + x.by(3, false) + " "
            + x.by(4, false) + " " + x.by(5, false));
        Kit.same("liked by", "5 4 5 5 5 1", x.by(0, true) + " " + x.by(1, true) + " " + x.by(2, true) + " " + x.by(3, true) + " "
            + x.by(4, true) + " " + x.by(5, true));
        Kit.same("champion, worst, ring, twins", "5 0 0 5", x.champion() + " " + x.worst() + " " + x.ring() + " " + x.twins());
        Kit.same("over", "160 0", x.over(0, 5) + " " + x.over(5, 0));
        Kit.same("bought", "255 0 0", x.bought(1) + " " + x.bought(5) + " " + x.bought(0));
        Kit.same("lies, fits, could", "6 0 2", x.heap(7, 5) + " " + x.heap(7, 6) + " " + x.heap(7, 7));
        Kit.same("friends: five, or four against a later one", "31 15", x.friends(5) + " " + x.friends(0));
        Kit.same("five of 20 at 99", 9900, x.cheapest(5, true));
        int[] sets = {8, 28, 56, 70, 56, 28, 8, 1};
        for (int k = 1; k <= 8; k++) {
            Kit.same("samples of " + k, sets[k - 1] + " " + sets[k - 1], x.samples(k, false) + " " + x.samples(k, true));
        }
        Kit.due("of nine", NO, () -> x.samples(9, true));
        Kit.due("seven stand", OUT, () -> x.points(6));
        Kit.due("a ninth heap", OUT, () -> x.heap(8, 0));
        Kit.law(x, "void if first<1");
        Kit.same("all void", 255, x.count(8));
        Kit.same("six of six stand at the last place", 0, x.place(7, 5, true));
        Kit.same("no seventh place", "-1 -1 -1", x.place(7, 6, true) + " " + x.writes(7, 0, 6) + " " + x.best(7, 6));
        Kit.due("no seventh place wanted", NO, () -> x.want(7, 5, 6));
        Kit.same("the last two", 1, x.want(7, 5, 4));
        Kit.same("a slip of six", 6, Kit.write(x, 7, 5, 4, 3, 2, 1, 0));
        Kit.same("no slip of seven", NO, Kit.write(x, 7, 5, 4, 3, 2, 1, 0, 6));
    }

    private static void fullBoroughInTime() {
        SecondPlace x = full();
        // All slips are abcdef: no heap of 20 can make another one elected against 140.
        Kit.same("rests", "true false", x.rests() + " " + x.gains(7));
        Kit.same("the first order", "0 5", x.best(7, 0) + " " + x.best(7, 5));
        Kit.same("habit 3 rests", "0 1", x.settles() + " " + x.round());
        Kit.same("ahead, trial, span", "1 1 1 1 1", x.ahead(40) + " " + x.trial(40, false) + " " + x.trial(40, true) + " "
            + x.span(40, false) + " " + x.span(40, true));
        for (int h = 0; h < 8; h++) {
            x.habit(h, h % 3);
        }
        // Want fedcba, turned to af, a first: habit 1 and 2 write afedcb.
        Kit.same("by habits", "5 4 0 5", x.writes(7, 0, 0) + " " + x.writes(7, 0, 1) + " " + x.writes(7, 1, 0) + " " + x.writes(7, 1, 1));
        Kit.same("settles in a year", "1 1", x.settles() + " " + x.round());
        Kit.same("a year", 1, x.years(1));
        Kit.same("f is elected: 100 to 60", "5 100 60", x.log(0, 1) + " " + x.log(0, 2) + " " + x.log(0, 3));
        Kit.same("slips", "fedcba afedcb afedcb fedcba", Kit.order(x, 0, false) + " " + Kit.order(x, 1, false) + " "
            + Kit.order(x, 2, false) + " " + Kit.order(x, 6, false));
        Kit.same("spoilers", 0, x.spoilers() & 32);
    }

    /** From six to nobody; the letters go up each time. */
    private static void fullBoroughLeaves() {
        SecondPlace x = full();
        String[] wants = {"edcba", "dcba", "cba", "ba", "a", ""};
        String[] slips = {"abcde", "abcd", "abc", "ab", "a", ""};
        for (int i = 0; i < 6; i++) {
            Kit.same("left", 5 - i, x.leave(i % 2 == 0 ? 0 : 5 - i));
            for (int h = 0; h < 8; h++) {
                Kit.same("want", wants[i], Kit.order(x, h, true));
                Kit.same("slip", slips[i], Kit.order(x, h, false));
            }
        }
        for (int i = 0; i < 6; i++) {
            x.undo();
        }
        Kit.same("all are back", "fedcba abcdef", Kit.order(x, 7, true) + " " + Kit.order(x, 7, false));
    }

    /** Twelve LINES of twenty for all: the most POINTS there can be. */
    private static void fullLaw() {
        SecondPlace x = full();
        StringBuilder law = new StringBuilder("give 20");
        for (int i = 0; i < 11; i++) {
            law.append(";give 20");
        }
        Kit.law(x, law.toString());
        Kit.same("points", "38400 38400", x.points(0) + " " + x.points(5));
        Kit.same("gives", 4800, x.gives(7, 5));
        Kit.same("margin of several", "0 0", x.elected() + " " + x.margin());
        x.years(1);
        Kit.same("log", "38400 38400", x.log(0, 2) + " " + x.log(0, 3));
        Kit.same("pay", 1980, x.pay(7, 5));
        Kit.law(x, "give 20 if paid and one>4;give 1 if one<1");
        Kit.same("paid counts", "5 400 160", x.elected() + " " + x.points(5) + " " + x.points(0));
        Kit.same("all of the least by bits", "0 -1", x.friends(5) + " " + x.friends(4));
    }

    /** "NONE for another what"; "NoSuchElementException: another what". */
    private static void whats() {
        SecondPlace x = Kit.told(THREE);
        x.years(1);
        int[] others = {-1, Integer.MIN_VALUE, Integer.MAX_VALUE, 100};
        for (int what : others) {
            Kit.same("count " + what, -1, x.count(what));
            Kit.due("heap " + what, "NoSuchElementException", () -> x.heap(0, what));
            Kit.due("log " + what, "NoSuchElementException", () -> x.log(0, what));
        }
        Kit.same("count 10 and 11", "1 -1", x.count(10) + " " + x.count(11));
        Kit.due("heap 7", 7, () -> x.heap(0, 7));
        Kit.due("heap 8", "NoSuchElementException", () -> x.heap(0, 8));
        Kit.due("log 3", 3, () -> x.log(0, 3));
        Kit.due("log 4", "NoSuchElementException", () -> x.log(0, 4));
        Kit.due("by 5", 1, () -> x.by(5, true));
        Kit.due("by 6", OUT, () -> x.by(6, true));
        Kit.due("by -1", OUT, () -> x.by(-1, false));
    }

    /** "Who is at a place ...; NONE": a place that is none is no fault of the call. */
    private static void extremePlaces() {
        SecondPlace x = Kit.told(THREE);
        for (int place : new int[] {-1, 3, 6, Integer.MIN_VALUE, Integer.MAX_VALUE}) {
            Kit.same("place " + place, "-1 -1", x.place(0, place, false) + " " + x.place(0, place, true));
            Kit.same("best " + place, -1, x.best(0, place));
            for (int habit = 0; habit < 4; habit++) {
                Kit.same("writes " + place, -1, x.writes(0, habit, place));
            }
        }
        Kit.same("the last places", "2 1 2 1", x.place(0, 2, false) + " " + x.place(2, 2, false) + " " + x.best(1, 2) + " " + x.writes(2, 3, 2));
    }
}
