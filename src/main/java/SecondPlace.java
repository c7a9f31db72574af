import java.util.Arrays;
import java.util.NoSuchElementException;

/** A borough in which whoever most have second is elected. ../shared/DOC.md tells every promise. */
public final class SecondPlace {
    public static final int NONE = -1;

    private static final int STANDING_LIMIT = 6;
    private static final int HEAP_LIMIT = 8;
    private static final int TEXT_LIMIT = 12;
    private static final int TAPE_LIMIT = 400;
    private static final int BOROUGH_LINES = 14;
    private static final int LAW_LINES = 12;
    private static final int DEPTH_LIMIT = 6;
    private static final int YEAR_LIMIT = 9999;
    private static final int YEARS_LIMIT = 60;
    private static final int AHEAD_LIMIT = 40;
    private static final int ROUND_LIMIT = 12;
    private static final int SPAN_SEEDS = 6;
    private static final int UNDO_LIMIT = 12;
    private static final int LOG_LIMIT = 60;
    private static final int LOG_WIDTH = 4;
    private static final int NO_ROW = -99;
    private static final int OTHER_LAWS = 6;
    private static final int RUNOFF = 4;
    private static final int ORDERS = 720;

    // What a law's line asks of one on a slip: the code holds FACTS and one of these.
    private static final int PLACE = 0;
    private static final int ONE = 1;
    private static final int FIRST = 2;
    private static final int STANDING = 3;
    private static final int MANY = 4;
    private static final int YEAR = 5;
    private static final int PAID = 6;
    private static final int LAST = 7;
    private static final int FACT_COUNT = 8;

    // Numbers of a law stay below 1000, so that facts and operators can stand above them in the same code.
    private static final int FACTS = 1000;
    private static final int OPERATORS = 1008;
    private static final int ADD = 1008;
    private static final int LESS = 1009;
    private static final int MORE = 1010;
    private static final int NOT = 1011;
    private static final int AND = 1012;
    private static final int OR = 1013;
    // Six brackets deep each level leaves at most two values waiting: 32 is well above.
    private static final int STACK_LIMIT = 32;

    // "Without a text" is the law: give 1 if place > 0 and place < 2.
    private static final int[] UNTOLD_CODE = {FACTS, 0, MORE, FACTS, 2, LESS, AND};
    private static final int[] UNTOLD_POINTS = {1};
    private static final int[] UNTOLD_ENDS = {7};

    private final Tape tape = new Tape();
    private final Reader reader = new Reader(tape);
    private final LawReader lawReader = new LawReader(reader);
    private final Judge judge = new Judge();
    private final Borough now;
    private final Borough aside;
    private final Borough picture;
    private final Borough[] past = new Borough[UNDO_LIMIT];
    private int pastNext = 0;
    private int pastSize = 0;
    private boolean pictured = false;
    private int latestFault = NONE;
    private final int[] sums = new int[STANDING_LIMIT];
    private final int[] row = new int[STANDING_LIMIT];
    private final int[][] givenNow = new int[HEAP_LIMIT][STANDING_LIMIT];
    private final int[][] givenPaid = new int[HEAP_LIMIT][STANDING_LIMIT];
    private final int[] tracks = new int[(AHEAD_LIMIT + 1) * HEAP_LIMIT];

    public SecondPlace() {
        Law untold = new Law(false, UNTOLD_POINTS, UNTOLD_ENDS, UNTOLD_CODE, false);
        now = new Borough(untold);
        aside = new Borough(untold);
        picture = new Borough(untold);
        for (int i = 0; i < UNDO_LIMIT; i++) {
            past[i] = new Borough(untold);
        }
    }

    // ---- the tape and the texts

    public int feed(int a, int b, int c, int d, int e) {
        if (!tape.hasRoom()) {
            return NONE;
        }
        tape.addNumber(a);
        tape.addNumber(b);
        tape.addNumber(c);
        tape.addNumber(d);
        tape.addNumber(e);
        return tape.size;
    }

    public boolean end(int n) {
        if (n < 0 || n > tape.size) {
            return false;
        }
        tape.size = n;
        return true;
    }

    public int borough() throws IllegalArgumentException, UnsupportedOperationException {
        aside.copyFrom(now);
        reader.open();
        boolean right = readBorough(aside);
        latestFault = reader.fault;
        if (!right) {
            throw new IllegalArgumentException("the text is wrong");
        }
        if (now.texts >= TEXT_LIMIT) {
            throw new UnsupportedOperationException("there are 12 texts");
        }
        now.copyFrom(aside);
        now.texts++;
        forgetActs();
        return now.texts;
    }

    public int law() throws IllegalArgumentException {
        reader.open();
        Law told = lawReader.readLaw();
        latestFault = reader.fault;
        if (told == null) {
            throw new IllegalArgumentException("the text is wrong");
        }
        now.law = told;
        forgetActs();
        return told.lines;
    }

    public int fault() {
        return latestFault;
    }

    private boolean readBorough(Borough into) {
        boolean more = !reader.atEnd();
        for (int line = 0; more && line < BOROUGH_LINES; line++) {
            if (!readBoroughLine(into)) {
                return false;
            }
            more = reader.takesSign(';');
        }
        // Behind the last line stands nothing; a line too many is wrong at its first word.
        return !more && reader.atEnd() || reader.wrongHere();
    }

    private boolean readBoroughLine(Borough into) {
        int from = reader.here();
        if (reader.takes("stand")) {
            return into.addStanding() || reader.wrongAt(from);
        }
        if (reader.takes("heap")) {
            return into.heapCount < HEAP_LIMIT ? readHeap(into) : reader.wrongAt(from);
        }
        if (reader.takes("stray")) {
            into.stray = reader.readNumber(0, 100);
            return into.stray != NONE;
        }
        return reader.wrongAt(from);
    }

    private boolean readHeap(Borough into) {
        Heap heap = into.heaps[into.heapCount];
        heap.paid = false;
        heap.habit = 0;
        heap.many = reader.readNumber(1, 20);
        if (heap.many == NONE || !reader.needs("want") || !reader.readOrder(heap.want, into.standing)) {
            return false;
        }
        if (!reader.needs("slip") || !reader.readOrder(heap.slip, into.standing)) {
            return false;
        }
        if (reader.takes("habit")) {
            heap.habit = reader.readNumber(0, 3);
        }
        if (heap.habit == NONE || !reader.needs("price")) {
            return false;
        }
        heap.price = reader.readNumber(1, 99);
        if (heap.price == NONE) {
            return false;
        }
        into.heapCount++;
        return true;
    }

    // ---- heaps, slips and points

    public int heap(int heap, int what) throws IndexOutOfBoundsException, NoSuchElementException {
        needHeap(heap);
        Heap asked = now.heaps[heap];
        switch (what) {
            case 0: return asked.many;
            case 1: return asked.habit;
            case 2: return asked.price;
            case 3: return asked.paid ? 1 : 0;
            case 4: return judge.isVoid(now, heap) ? 1 : 0;
            case 5: return differing(asked.want, asked.slip, now.standing);
            case 6: return fittingHabits(heap);
            case 7: return judge.explore(now, heap);
            default: throw new NoSuchElementException("no such what");
        }
    }

    public int place(int heap, int place, boolean want) throws IndexOutOfBoundsException {
        needHeap(heap);
        if (place < 0 || place >= now.standing) {
            return NONE;
        }
        return now.heaps[heap].orderOf(want)[place];
    }

    public int points(int one) throws IndexOutOfBoundsException {
        needOne(one);
        judge.tally(now, now.allHeaps(), sums);
        return sums[one];
    }

    public int gives(int heap, int one) throws IndexOutOfBoundsException {
        needHeap(heap);
        needOne(one);
        judge.tally(now, 1 << heap, sums);
        return sums[one];
    }

    public int elected() {
        return judge.choose(now, now.allHeaps());
    }

    // ---- acts

    public int write(int heap) throws IndexOutOfBoundsException, IllegalArgumentException {
        int length = tape.useUp();
        needHeap(heap);
        if (length != now.standing || !isOrder(tape.bytes, length)) {
            throw new IllegalArgumentException("the tape is no order of all");
        }
        remember();
        int[] slip = now.heaps[heap].slip;
        int changed = differing(slip, tape.bytes, length);
        System.arraycopy(tape.bytes, 0, slip, 0, length);
        return changed;
    }

    public int habit(int heap, int n) throws IndexOutOfBoundsException, IllegalArgumentException {
        needHeap(heap);
        needHabit(n);
        remember();
        int before = now.heaps[heap].habit;
        now.heaps[heap].habit = n;
        return before;
    }

    public int leave(int one) throws IndexOutOfBoundsException {
        needOne(one);
        remember();
        now.removeStanding(one);
        return now.standing;
    }

    public int pay(int heap, int one) throws IndexOutOfBoundsException, IllegalStateException {
        needHeap(heap);
        needOne(one);
        Heap bribed = now.heaps[heap];
        if (bribed.paid) {
            throw new IllegalStateException("it is paid");
        }
        remember();
        paidSlip(bribed, now.standing, one, row);
        System.arraycopy(row, 0, bribed.slip, 0, now.standing);
        bribed.paid = true;
        return bribed.cost();
    }

    public int want(int heap, int place, int other) throws IndexOutOfBoundsException, IllegalArgumentException {
        needHeap(heap);
        boolean places = place >= 0 && place < now.standing && other >= 0 && other < now.standing;
        if (!places || place == other) {
            throw new IllegalArgumentException("these are no two places");
        }
        remember();
        int[] want = now.heaps[heap].want;
        swap(want, place, other);
        return want[place];
    }

    public int years(int n) throws IllegalArgumentException {
        if (n < 1 || n > YEARS_LIMIT) {
            throw new IllegalArgumentException("no such number of years");
        }
        remember();
        return judge.passYears(now, n, true);
    }

    // ---- what would be written, other laws, who beats whom

    public int writes(int heap, int habit, int place) throws IndexOutOfBoundsException, IllegalArgumentException {
        needHeap(heap);
        needHabit(habit);
        if (place < 0 || place >= now.standing) {
            return NONE;
        }
        judge.compose(now, heap, habit, row);
        return row[place];
    }

    public int by(int law, boolean wants) throws IndexOutOfBoundsException {
        if (law < 0 || law >= OTHER_LAWS) {
            throw new IndexOutOfBoundsException("no such law");
        }
        return chosenBy(law, wants);
    }

    public boolean beats(int one, int other) throws IndexOutOfBoundsException, IllegalArgumentException {
        needTwo(one, other);
        return isBeaten(other, one);
    }

    public int champion() {
        return beatsAll();
    }

    public int ring() {
        int rings = 0;
        for (int a = 0; a < now.standing; a++) {
            for (int b = a + 1; b < now.standing; b++) {
                for (int c = b + 1; c < now.standing; c++) {
                    boolean upwards = isBeaten(b, a) && isBeaten(c, b) && isBeaten(a, c);
                    boolean downwards = isBeaten(c, a) && isBeaten(b, c) && isBeaten(a, b);
                    rings += upwards || downwards ? 1 : 0;
                }
            }
        }
        return rings;
    }

    public int worst() {
        Arrays.fill(sums, 0);
        for (int h = 0; h < now.heapCount && now.standing > 0; h++) {
            sums[now.heaps[h].want[now.standing - 1]] += now.heaps[h].many;
        }
        return mostOf(sums, now.standing);
    }

    public int harm(int one) throws IndexOutOfBoundsException {
        needOne(one);
        return now.harmOf(one);
    }

    public int least(boolean gap) {
        int kindest = leastHarmed();
        if (!gap) {
            return kindest;
        }
        int chosen = judge.choose(now, now.allHeaps());
        return chosen == NONE || kindest == NONE ? 0 : now.harmOf(chosen) - now.harmOf(kindest);
    }

    // ---- who spoils it, who is alike, what it takes

    public int spoilers() {
        int chosen = judge.choose(now, now.allHeaps());
        int spoiling = 0;
        for (int one = 0; one < now.standing; one++) {
            if (one == chosen) {
                continue;
            }
            aside.copyFrom(now);
            aside.removeStanding(one);
            int then = judge.choose(aside, aside.allHeaps());
            int thenByNow = then >= one ? then + 1 : then;
            if (thenByNow != chosen) {
                spoiling |= 1 << one;
            }
        }
        return spoiling;
    }

    public int twins() {
        int pairs = 0;
        for (int a = 0; a < now.standing; a++) {
            for (int b = a + 1; b < now.standing; b++) {
                pairs += now.areTwins(a, b) ? 1 : 0;
            }
        }
        return pairs;
    }

    public int friends(int one) throws IndexOutOfBoundsException {
        needOne(one);
        fillGiven(one);
        int found = NONE;
        for (int set = 0; set <= now.allHeaps(); set++) {
            boolean fewer = found == NONE || Integer.bitCount(set) < Integer.bitCount(found);
            if (fewer && choosesIfPaid(set) == one) {
                found = set;
            }
        }
        return found;
    }

    public int cheapest(int one, boolean much) throws IndexOutOfBoundsException {
        needOne(one);
        fillGiven(one);
        int found = NONE;
        int cost = NONE;
        for (int set = 0; set <= now.allHeaps(); set++) {
            int price = now.costOf(set);
            if ((found == NONE || price < cost) && choosesIfPaid(set) == one) {
                found = set;
                cost = price;
            }
        }
        return much ? cost : found;
    }

    // ---- whether it rests, what one heap could do alone

    public boolean gains(int heap) throws IndexOutOfBoundsException {
        needHeap(heap);
        return couldGain(heap);
    }

    public boolean rests() {
        for (int h = 0; h < now.heapCount; h++) {
            if (couldGain(h)) {
                return false;
            }
        }
        return true;
    }

    public int best(int heap, int k) throws IndexOutOfBoundsException {
        needHeap(heap);
        if (k < 0 || k >= now.standing) {
            return NONE;
        }
        int could = judge.explore(now, heap);
        int dearest = firstWithin(now.heaps[heap].want, now.standing, could);
        return dearest == NONE ? NONE : judge.firstOrderFor(dearest, k);
    }

    // ---- years ahead

    public int ahead(int n) throws IllegalArgumentException {
        needAhead(n);
        aside.copyFrom(now);
        judge.passYears(aside, n, false);
        return aside.mayor;
    }

    public int settles() {
        aside.copyFrom(now);
        for (int n = 0; n <= AHEAD_LIMIT; n++) {
            keepTrack(aside, 0);
            judge.passYears(aside, 1, false);
            keepTrack(aside, 1);
            if (sameTracks(0, 1)) {
                return n;
            }
        }
        return NONE;
    }

    public int round() {
        aside.copyFrom(now);
        for (int n = 1; n <= AHEAD_LIMIT; n++) {
            judge.passYears(aside, 1, false);
            keepTrack(aside, n);
        }
        for (int p = 1; p <= ROUND_LIMIT; p++) {
            if (sameTracks(AHEAD_LIMIT, AHEAD_LIMIT - p)) {
                return p;
            }
        }
        return NONE;
    }

    // ---- what is wanted, samples, who was bought

    public int laws(boolean champion) {
        int due = champion ? beatsAll() : leastHarmed();
        if (due == NONE) {
            return 0;
        }
        int fitting = 0;
        for (int law = 0; law < OTHER_LAWS; law++) {
            if (chosenBy(law, false) == due) {
                fitting |= 1 << law;
            }
        }
        return fitting;
    }

    public int samples(int k, boolean all) throws IllegalArgumentException {
        if (k < 1 || k > HEAP_LIMIT) {
            throw new IllegalArgumentException("no such number of heaps");
        }
        int chosen = judge.choose(now, now.allHeaps());
        int sets = 0;
        int same = 0;
        for (int set = 0; set <= now.allHeaps(); set++) {
            if (Integer.bitCount(set) == k) {
                sets++;
                same += judge.choose(now, set) == chosen ? 1 : 0;
            }
        }
        return all ? sets : same;
    }

    public int bought(int one) throws IndexOutOfBoundsException {
        needOne(one);
        int found = 0;
        for (int h = 0; h < now.heapCount && now.standing > 1; h++) {
            if (now.heaps[h].slip[1] == one && now.heaps[h].want[0] != one) {
                found |= 1 << h;
            }
        }
        return found;
    }

    public int over(int one, int other) throws IndexOutOfBoundsException, IllegalArgumentException {
        needTwo(one, other);
        return now.votersAhead(one, other, false);
    }

    public int margin() {
        judge.tally(now, now.allHeaps(), sums);
        int chosen = mostOf(sums, now.standing);
        return chosen == NONE ? 0 : sums[chosen] - mostBut(sums, now.standing, chosen);
    }

    // ---- trials, spans and the log

    public int trial(int n, boolean changes) throws IllegalArgumentException {
        needAhead(n);
        aside.copyFrom(now);
        int times = judge.passYears(aside, n, true);
        return changes ? times : aside.mayor;
    }

    public int span(int n, boolean most) throws IllegalArgumentException {
        needAhead(n);
        int fewest = AHEAD_LIMIT;
        int greatest = 0;
        for (int from = 1; from <= SPAN_SEEDS; from++) {
            aside.copyFrom(now);
            aside.seed = from;
            int times = judge.passYears(aside, n, true);
            fewest = Math.min(fewest, times);
            greatest = Math.max(greatest, times);
        }
        return most ? greatest : fewest;
    }

    public int led(int one, boolean year) throws IndexOutOfBoundsException {
        needOne(one);
        int rows = 0;
        int latest = NONE;
        for (int ago = 0; ago < now.chronicle.size; ago++) {
            if (now.chronicle.entry(ago, 1) == one) {
                rows++;
                latest = latest == NONE ? now.chronicle.entry(ago, 0) : latest;
            }
        }
        return year ? latest : rows;
    }

    public int log(int ago, int what) throws NoSuchElementException {
        if (what < 0 || what >= LOG_WIDTH) {
            throw new NoSuchElementException("no such what");
        }
        return now.chronicle.entry(ago, what);
    }

    public int seed(int n) {
        int before = now.seed;
        now.seed = n;
        return before;
    }

    // ---- undone, and the image

    public boolean undo() {
        if (pastSize == 0) {
            return false;
        }
        pastSize--;
        pastNext = pastNext == 0 ? UNDO_LIMIT - 1 : pastNext - 1;
        now.copyFrom(past[pastNext]);
        now.chronicle.copyFrom(past[pastNext].chronicle);
        return true;
    }

    public void image() {
        picture.copyFrom(now);
        picture.chronicle.copyFrom(now.chronicle);
        pictured = true;
    }

    public boolean back() {
        if (!pictured) {
            return false;
        }
        now.copyFrom(picture);
        now.chronicle.copyFrom(picture.chronicle);
        forgetActs();
        return true;
    }

    public int count(int what) {
        switch (what) {
            case 0: return now.standing;
            case 1: return now.heapCount;
            case 2: return now.texts;
            case 3: return now.law.told ? now.law.lines : NONE;
            case 4: return now.year;
            case 5: return now.mayor;
            case 6: return now.stray;
            case 7: return now.voters();
            case 8: return voidHeaps();
            case 9: return now.chronicle.size;
            case 10: return pastSize;
            default: return NONE;
        }
    }

    // ---- what is thrown

    private void needHeap(int heap) {
        if (heap < 0 || heap >= now.heapCount) {
            throw new IndexOutOfBoundsException("no such heap");
        }
    }

    private void needOne(int one) {
        if (one < 0 || one >= now.standing) {
            throw new IndexOutOfBoundsException("nobody of that number");
        }
    }

    private void needTwo(int one, int other) {
        needOne(one);
        needOne(other);
        if (one == other) {
            throw new IllegalArgumentException("both are one");
        }
    }

    private void needHabit(int habit) {
        if (habit < 0 || habit > 3) {
            throw new IllegalArgumentException("no such habit");
        }
    }

    private void needAhead(int n) {
        if (n < 0 || n > AHEAD_LIMIT) {
            throw new IllegalArgumentException("no such number of years");
        }
    }

    // ---- helpers of the calls

    private void remember() {
        past[pastNext].copyFrom(now);
        past[pastNext].chronicle.copyFrom(now.chronicle);
        pastNext = (pastNext + 1) % UNDO_LIMIT;
        pastSize = Math.min(pastSize + 1, UNDO_LIMIT);
    }

    /** A text or going back may put other heaps behind the same numbers: what was judged no longer holds either. */
    private void forgetActs() {
        pastSize = 0;
        judge.forget();
    }

    private int voidHeaps() {
        int found = 0;
        for (int h = 0; h < now.heapCount; h++) {
            found |= judge.isVoid(now, h) ? 1 << h : 0;
        }
        return found;
    }

    private int fittingHabits(int heap) {
        int fitting = 0;
        for (int habit = 0; habit < 3; habit++) {
            judge.compose(now, heap, habit, row);
            if (differing(row, now.heaps[heap].slip, now.standing) == 0) {
                fitting |= 1 << habit;
            }
        }
        return fitting;
    }

    private boolean isBeaten(int loser, int winner) {
        return now.votersAhead(winner, loser, true) > now.votersAhead(loser, winner, true);
    }

    private int beatsAll() {
        for (int one = 0; one < now.standing; one++) {
            int beaten = 0;
            for (int other = 0; other < now.standing; other++) {
                beaten += other != one && isBeaten(other, one) ? 1 : 0;
            }
            if (beaten == now.standing - 1) {
                return one;
            }
        }
        return NONE;
    }

    private int leastHarmed() {
        for (int one = 0; one < now.standing; one++) {
            sums[one] = -now.harmOf(one);
        }
        return mostOf(sums, now.standing);
    }

    private int chosenBy(int law, boolean wants) {
        now.scoreBy(law, wants, sums);
        int ahead = mostOf(sums, now.standing);
        if (law != RUNOFF || now.standing < 2) {
            return ahead;
        }
        // All scores of the runoff are 0 or more: below that nobody is taken twice.
        sums[ahead] = NONE;
        int behind = mostOf(sums, now.standing);
        int lesser = Math.min(ahead, behind);
        int greater = Math.max(ahead, behind);
        boolean greaterWins = now.votersAhead(greater, lesser, wants) > now.votersAhead(lesser, greater, wants);
        return greaterWins ? greater : lesser;
    }

    private boolean couldGain(int heap) {
        int[] want = now.heaps[heap].want;
        int chosen = judge.choose(now, now.allHeaps());
        int dearest = firstWithin(want, now.standing, judge.explore(now, heap));
        return placeOf(want, now.standing, dearest) < placeOf(want, now.standing, chosen);
    }

    /** What each heap gives as it is and paid for one, so that all sets of heaps are sums of these alone. */
    private void fillGiven(int one) {
        for (int h = 0; h < now.heapCount; h++) {
            Heap heap = now.heaps[h];
            Arrays.fill(givenNow[h], 0);
            judge.addSlip(now, h, heap.paid, heap.slip, givenNow[h]);
            paidSlip(heap, now.standing, one, row);
            Arrays.fill(givenPaid[h], 0);
            judge.addSlip(now, h, true, row, givenPaid[h]);
        }
    }

    private int choosesIfPaid(int set) {
        Arrays.fill(sums, 0);
        for (int h = 0; h < now.heapCount; h++) {
            int[] given = (set >> h & 1) == 1 ? givenPaid[h] : givenNow[h];
            for (int one = 0; one < now.standing; one++) {
                sums[one] += given[one];
            }
        }
        return mostOf(sums, now.standing);
    }

    /** A slip becomes one number, of three bits a place. */
    private void keepTrack(Borough borough, int at) {
        for (int h = 0; h < borough.heapCount; h++) {
            int packed = 0;
            for (int p = 0; p < borough.standing; p++) {
                packed = packed << 3 | borough.heaps[h].slip[p];
            }
            tracks[at * HEAP_LIMIT + h] = packed;
        }
    }

    private boolean sameTracks(int at, int other) {
        for (int h = 0; h < now.heapCount; h++) {
            if (tracks[at * HEAP_LIMIT + h] != tracks[other * HEAP_LIMIT + h]) {
                return false;
            }
        }
        return true;
    }

    // ---- orders and sums

    private static boolean isOrder(int[] order, int n) {
        int seen = 0;
        for (int p = 0; p < n; p++) {
            if (order[p] >= n || (seen >> order[p] & 1) == 1) {
                return false;
            }
            seen |= 1 << order[p];
        }
        return true;
    }

    private static int differing(int[] order, int[] other, int n) {
        int places = 0;
        for (int p = 0; p < n; p++) {
            places += order[p] != other[p] ? 1 : 0;
        }
        return places;
    }

    /** n, behind all places, if one is not there. */
    private static int placeOf(int[] order, int n, int one) {
        for (int p = 0; p < n; p++) {
            if (order[p] == one) {
                return p;
            }
        }
        return n;
    }

    private static int firstWithin(int[] order, int n, int set) {
        for (int p = 0; p < n; p++) {
            if ((set >> order[p] & 1) == 1) {
                return order[p];
            }
        }
        return NONE;
    }

    private static void swap(int[] order, int place, int other) {
        int kept = order[place];
        order[place] = order[other];
        order[other] = kept;
    }

    private static void turnAbout(int[] order, int from, int to) {
        for (int low = from, high = to - 1; low < high; low++, high--) {
            swap(order, low, high);
        }
    }

    private static boolean nextOrder(int[] order, int n) {
        int low = n - 2;
        while (low >= 0 && order[low] > order[low + 1]) {
            low--;
        }
        if (low < 0) {
            return false;
        }
        int high = n - 1;
        while (high > low && order[high] < order[low]) {
            high--;
        }
        swap(order, low, high);
        turnAbout(order, low + 1, n);
        return true;
    }

    /** Two lead, the rest follow as wanted. */
    private static void ledOrder(int[] want, int n, int first, int second, int[] into) {
        into[0] = first;
        into[1] = second;
        int to = 2;
        for (int p = 0; p < n; p++) {
            if (want[p] != first && want[p] != second && to < n) {
                into[to] = want[p];
                to++;
            }
        }
    }

    private static void paidSlip(Heap heap, int n, int one, int[] into) {
        if (n < 2) {
            System.arraycopy(heap.slip, 0, into, 0, n);
            return;
        }
        int leastWanted = heap.want[n - 1] == one ? heap.want[n - 2] : heap.want[n - 1];
        ledOrder(heap.want, n, leastWanted, one, into);
    }

    /** Of several the least. */
    private static int mostOf(int[] sums, int n) {
        int found = n > 0 ? 0 : NONE;
        for (int one = 1; one < n; one++) {
            if (sums[one] > sums[found]) {
                found = one;
            }
        }
        return found;
    }

    private static int mostBut(int[] sums, int n, int but) {
        int most = 0;
        for (int one = 0; one < n; one++) {
            if (one != but && sums[one] > most) {
                most = sums[one];
            }
        }
        return most;
    }

    // ---- the classes inside

    /** The bytes that were fed, 0 to 255 each. */
    private static final class Tape {
        final int[] bytes = new int[TAPE_LIMIT];
        int size = 0;

        boolean hasRoom() {
            return size + 20 <= TAPE_LIMIT;
        }

        void addNumber(int number) {
            for (int shift = 24; shift >= 0 && size < TAPE_LIMIT; shift -= 8) {
                bytes[size] = number >>> shift & 255;
                size++;
            }
        }

        /** How long it was; its bytes can still be read until the next ones come. */
        int useUp() {
            int length = size;
            size = 0;
            return length;
        }
    }

    /** Reads words, signs, numbers and orders of a text, and keeps its first wrong byte. */
    private static final class Reader {
        private final Tape tape;
        private int size = 0;
        private int at = 0;
        int fault = NONE;

        Reader(Tape tape) {
            this.tape = tape;
        }

        void open() {
            size = tape.useUp();
            at = 0;
            fault = NONE;
        }

        /** Where the next thing begins, or the text's length. */
        int here() {
            while (at < size && tape.bytes[at] == ' ') {
                at++;
            }
            return at;
        }

        boolean atEnd() {
            return here() >= size;
        }

        boolean wrongAt(int where) {
            fault = where;
            return false;
        }

        boolean wrongHere() {
            return wrongAt(here());
        }

        boolean takesSign(char sign) {
            if (atEnd() || tape.bytes[at] != sign) {
                return false;
            }
            at++;
            return true;
        }

        boolean takes(String word) {
            int from = here();
            int to = endOf(from, 'a', 'z');
            if (to - from != word.length()) {
                return false;
            }
            for (int i = 0; i < word.length(); i++) {
                if (tape.bytes[from + i] != word.charAt(i)) {
                    return false;
                }
            }
            at = to;
            return true;
        }

        boolean needs(String word) {
            return takes(word) || wrongHere();
        }

        boolean atDigit() {
            return endOf(here(), '0', '9') > at;
        }

        /** NONE, and the fault is set, if no such number stands there. */
        int readNumber(int least, int most) {
            int from = here();
            int to = endOf(from, '0', '9');
            int number = 0;
            for (int i = from; i < to && i < from + 3; i++) {
                number = number * 10 + tape.bytes[i] - '0';
            }
            if (to == from || to > from + 3 || number < least || number > most) {
                wrongAt(from);
                return NONE;
            }
            at = to;
            return number;
        }

        boolean readOrder(int[] into, int standing) {
            int from = here();
            int to = endOf(from, 'a', 'z');
            // A word has a letter at least: with nobody standing there is no order.
            if (to == from || to - from != standing) {
                return wrongAt(from);
            }
            for (int p = 0; p < standing; p++) {
                into[p] = tape.bytes[from + p] - 'a';
            }
            at = to;
            return isOrder(into, standing) || wrongAt(from);
        }

        private int endOf(int from, char low, char high) {
            int to = from;
            while (to < size && tape.bytes[to] >= low && tape.bytes[to] <= high) {
                to++;
            }
            return to;
        }
    }

    /** A law as read: for each line what it gives (NONE: void) and where its code ends; operands stand ahead of operators. */
    private static final class Law {
        final boolean told;
        final int lines;
        final boolean asksYear;
        private final int[] points;
        private final int[] ends;
        private final int[] code;

        Law(boolean told, int[] points, int[] ends, int[] code, boolean asksYear) {
            this.told = told;
            this.lines = points.length;
            this.points = points;
            this.ends = ends;
            this.code = code;
            this.asksYear = asksYear;
        }

        int pointsOf(int line) {
            return points[line];
        }

        boolean holds(int line, int[] facts, int[] stack) {
            int top = 0;
            for (int i = line == 0 ? 0 : ends[line - 1]; i < ends[line]; i++) {
                int sign = code[i];
                if (sign < OPERATORS && top < STACK_LIMIT) {
                    stack[top] = sign < FACTS ? sign : facts[sign - FACTS];
                    top++;
                } else if (sign == NOT && top > 0) {
                    stack[top - 1] = 1 - stack[top - 1];
                } else if (top > 1) {
                    top--;
                    int left = stack[top - 1];
                    int right = stack[top];
                    switch (sign) {
                        case ADD: stack[top - 1] = left + right; break;
                        case LESS: stack[top - 1] = left < right ? 1 : 0; break;
                        case MORE: stack[top - 1] = left > right ? 1 : 0; break;
                        case AND: stack[top - 1] = left & right; break;
                        default: stack[top - 1] = left | right; break;
                    }
                }
            }
            // A line without a condition always holds.
            return top == 0 || stack[top - 1] == 1;
        }
    }

    /** Reads the text of a law into rows that are used again for each text. */
    private static final class LawReader {
        private final Reader reader;
        private final int[] code = new int[TAPE_LIMIT];
        private final int[] points = new int[LAW_LINES];
        private final int[] ends = new int[LAW_LINES];
        private int codeSize = 0;
        private int lines = 0;
        private boolean asksYear = false;

        LawReader(Reader reader) {
            this.reader = reader;
        }

        /** null, and the reader has the fault, if the text is wrong. */
        Law readLaw() {
            codeSize = 0;
            lines = 0;
            asksYear = false;
            boolean more = !reader.atEnd();
            while (more && lines < LAW_LINES) {
                if (!readLine(lines)) {
                    return null;
                }
                ends[lines] = codeSize;
                lines++;
                more = reader.takesSign(';');
            }
            // Behind the last line stands nothing; a line too many is wrong at its first word.
            if (more || !reader.atEnd()) {
                reader.wrongHere();
                return null;
            }
            return new Law(true, Arrays.copyOf(points, lines), Arrays.copyOf(ends, lines),
                    Arrays.copyOf(code, codeSize), asksYear);
        }

        private boolean readLine(int line) {
            points[line] = NONE;
            if (reader.takes("give")) {
                points[line] = reader.readNumber(0, 20);
                if (points[line] == NONE) {
                    return false;
                }
            } else if (!reader.needs("void")) {
                return false;
            }
            return !reader.takes("if") || readAny(0);
        }

        private boolean readAny(int depth) {
            if (!readAll(depth)) {
                return false;
            }
            for (int i = 0; i < TAPE_LIMIT && reader.takes("or"); i++) {
                if (!readAll(depth)) {
                    return false;
                }
                emit(OR);
            }
            return true;
        }

        private boolean readAll(int depth) {
            if (!readAtom(depth)) {
                return false;
            }
            for (int i = 0; i < TAPE_LIMIT && reader.takes("and"); i++) {
                if (!readAtom(depth)) {
                    return false;
                }
                emit(AND);
            }
            return true;
        }

        private boolean readAtom(int depth) {
            int from = reader.here();
            if (reader.takes("not")) {
                if (depth >= DEPTH_LIMIT) {
                    return reader.wrongAt(from);
                }
                return readAtom(depth + 1) && emit(NOT);
            }
            if (reader.takesSign('(')) {
                if (depth >= DEPTH_LIMIT) {
                    return reader.wrongAt(from);
                }
                return readAny(depth + 1) && (reader.takesSign(')') || reader.wrongHere());
            }
            if (reader.takes("paid")) {
                return emit(FACTS + PAID);
            }
            if (reader.takes("last")) {
                return emit(FACTS + LAST);
            }
            if (!readSum()) {
                return false;
            }
            int sign = reader.takesSign('<') ? LESS : MORE;
            if (sign == MORE && !reader.takesSign('>')) {
                return reader.wrongHere();
            }
            return readSum() && emit(sign);
        }

        private boolean readSum() {
            if (!readPart()) {
                return false;
            }
            for (int i = 0; i < TAPE_LIMIT && reader.takesSign('+'); i++) {
                if (!readPart()) {
                    return false;
                }
                emit(ADD);
            }
            return true;
        }

        private boolean readPart() {
            if (reader.atDigit()) {
                int number = reader.readNumber(0, 999);
                return number != NONE && emit(number);
            }
            if (reader.takes("place")) {
                return emit(FACTS + PLACE);
            }
            if (reader.takes("one")) {
                return emit(FACTS + ONE);
            }
            if (reader.takes("first")) {
                return emit(FACTS + FIRST);
            }
            if (reader.takes("standing")) {
                return emit(FACTS + STANDING);
            }
            if (reader.takes("many")) {
                return emit(FACTS + MANY);
            }
            if (reader.takes("year")) {
                asksYear = true;
                return emit(FACTS + YEAR);
            }
            return reader.wrongHere();
        }

        /** Each sign of the code has a byte of its own in the text, so that there is always room. */
        private boolean emit(int sign) {
            if (codeSize < TAPE_LIMIT) {
                code[codeSize] = sign;
                codeSize++;
            }
            return true;
        }
    }

    /** Voters alike. */
    private static final class Heap {
        int many = 0;
        int habit = 0;
        int price = 0;
        boolean paid = false;
        final int[] want = new int[STANDING_LIMIT];
        final int[] slip = new int[STANDING_LIMIT];

        void copyFrom(Heap other) {
            many = other.many;
            habit = other.habit;
            price = other.price;
            paid = other.paid;
            System.arraycopy(other.want, 0, want, 0, STANDING_LIMIT);
            System.arraycopy(other.slip, 0, slip, 0, STANDING_LIMIT);
        }

        int[] orderOf(boolean wants) {
            return wants ? want : slip;
        }

        int cost() {
            return price * many;
        }
    }

    /** The log: the latest rows go round in one row of numbers. */
    private static final class Chronicle {
        private final int[] rows = new int[LOG_LIMIT * LOG_WIDTH];
        private int next = 0;
        int size = 0;

        void add(int year, int mayor, int points, int others) {
            int from = next * LOG_WIDTH;
            rows[from] = year;
            rows[from + 1] = mayor;
            rows[from + 2] = points;
            rows[from + 3] = others;
            next = (next + 1) % LOG_LIMIT;
            size = Math.min(size + 1, LOG_LIMIT);
        }

        int entry(int ago, int what) {
            if (ago < 0 || ago >= size) {
                return NO_ROW;
            }
            int at = (next + LOG_LIMIT - 1 - ago) % LOG_LIMIT;
            return rows[at * LOG_WIDTH + what];
        }

        void copyFrom(Chronicle other) {
            System.arraycopy(other.rows, 0, rows, 0, rows.length);
            next = other.next;
            size = other.size;
        }
    }

    /** All that an image keeps and an act may change. */
    private static final class Borough {
        int standing = 0;
        int heapCount = 0;
        int texts = 0;
        int stray = 0;
        int year = 0;
        int mayor = NONE;
        int seed = 1;
        Law law;
        final Heap[] heaps = new Heap[HEAP_LIMIT];
        final Chronicle chronicle = new Chronicle();

        Borough(Law law) {
            this.law = law;
            for (int h = 0; h < HEAP_LIMIT; h++) {
                heaps[h] = new Heap();
            }
        }

        /** The chronicle is copied apart: trials need none. */
        void copyFrom(Borough other) {
            standing = other.standing;
            heapCount = other.heapCount;
            texts = other.texts;
            stray = other.stray;
            year = other.year;
            mayor = other.mayor;
            seed = other.seed;
            law = other.law;
            for (int h = 0; h < heapCount; h++) {
                heaps[h].copyFrom(other.heaps[h]);
            }
        }

        boolean addStanding() {
            if (standing >= STANDING_LIMIT) {
                return false;
            }
            for (int h = 0; h < heapCount; h++) {
                heaps[h].want[standing] = standing;
                heaps[h].slip[standing] = standing;
            }
            standing++;
            return true;
        }

        void removeStanding(int one) {
            for (int h = 0; h < heapCount; h++) {
                removeFrom(heaps[h].want, one);
                removeFrom(heaps[h].slip, one);
            }
            standing--;
            if (mayor == one) {
                mayor = NONE;
            } else if (mayor > one) {
                mayor--;
            }
        }

        private void removeFrom(int[] order, int one) {
            int to = 0;
            for (int p = 0; p < standing; p++) {
                if (order[p] != one) {
                    order[to] = order[p] > one ? order[p] - 1 : order[p];
                    to++;
                }
            }
        }

        int allHeaps() {
            return (1 << heapCount) - 1;
        }

        int voters() {
            int voters = 0;
            for (int h = 0; h < heapCount; h++) {
                voters += heaps[h].many;
            }
            return voters;
        }

        int costOf(int set) {
            int cost = 0;
            for (int h = 0; h < heapCount; h++) {
                cost += (set >> h & 1) == 1 ? heaps[h].cost() : 0;
            }
            return cost;
        }

        int votersAhead(int one, int other, boolean wants) {
            int voters = 0;
            for (int h = 0; h < heapCount; h++) {
                int[] order = heaps[h].orderOf(wants);
                if (placeOf(order, standing, one) < placeOf(order, standing, other)) {
                    voters += heaps[h].many;
                }
            }
            return voters;
        }

        int harmOf(int one) {
            int harm = 0;
            for (int h = 0; h < heapCount; h++) {
                harm += placeOf(heaps[h].want, standing, one) * heaps[h].many;
            }
            return harm;
        }

        boolean areTwins(int one, int other) {
            for (int h = 0; h < heapCount; h++) {
                int[] want = heaps[h].want;
                if (Math.abs(placeOf(want, standing, one) - placeOf(want, standing, other)) != 1) {
                    return false;
                }
            }
            return true;
        }

        /** Whoever has the most is chosen; the runoff begins as law 0. */
        void scoreBy(int otherLaw, boolean wants, int[] scores) {
            Arrays.fill(scores, 0);
            for (int h = 0; h < heapCount; h++) {
                int[] order = heaps[h].orderOf(wants);
                for (int p = 0; p < standing; p++) {
                    scores[order[p]] += scoreAt(otherLaw, p) * heaps[h].many;
                }
            }
        }

        private int scoreAt(int otherLaw, int place) {
            switch (otherLaw) {
                case 1: return place == 1 ? 1 : 0;
                case 2: return place == 0 ? 2 : place == 1 ? 1 : 0;
                case 3: return standing - 1 - place;
                case 5: return place == standing - 1 ? -1 : 0;
                default: return place == 0 ? 1 : 0;
            }
        }

        int draw() {
            seed = 1103515245 * seed + 12345;
            return seed >>> 16 & 32767;
        }

        void endYear(int elected) {
            mayor = elected;
            for (int h = 0; h < heapCount; h++) {
                heaps[h].paid = false;
            }
            year = Math.min(year + 1, YEAR_LIMIT);
        }
    }

    /** Counts slips by the law, and lets heaps write by their habits. */
    private static final class Judge {
        private static final int WORTHS = HEAP_LIMIT * 2 * STANDING_LIMIT * STANDING_LIMIT * STANDING_LIMIT;
        // A worth is judged once and holds as long as its age is the judge's: a law is long to read, and orders are many.
        private final int[] worths = new int[WORTHS];
        private final int[] ages = new int[WORTHS];
        private int age = 1;
        private Law law = null;
        private int standing = 0;
        private int year = 0;
        private final int[] facts = new int[FACT_COUNT];
        private final int[] stack = new int[STACK_LIMIT];
        private final int[] total = new int[STANDING_LIMIT];
        private final int[] others = new int[STANDING_LIMIT];
        private final int[] order = new int[STANDING_LIMIT];
        private final int[] written = new int[STANDING_LIMIT];
        private final int[] firstOrders = new int[STANDING_LIMIT * STANDING_LIMIT];

        void forget() {
            age++;
        }

        private void lookAt(Borough borough) {
            boolean sameYear = borough.year == year || !borough.law.asksYear;
            if (borough.law != law || borough.standing != standing || !sameYear) {
                law = borough.law;
                standing = borough.standing;
                year = borough.year;
                age++;
            }
        }

        /** What a heap's slip gives one at a place behind a first one; NONE for the first one of a void slip. */
        private int worth(Borough borough, int h, boolean paid, int first, int one, int place) {
            int at = h * 2 + (paid ? 1 : 0);
            at = ((at * STANDING_LIMIT + first) * STANDING_LIMIT + one) * STANDING_LIMIT + place;
            if (ages[at] == age) {
                return worths[at];
            }
            Law read = borough.law;
            facts[PLACE] = place;
            facts[ONE] = one;
            facts[FIRST] = first;
            facts[STANDING] = borough.standing;
            facts[MANY] = borough.heaps[h].many;
            facts[YEAR] = borough.year;
            facts[PAID] = paid ? 1 : 0;
            facts[LAST] = place + 1 == borough.standing ? 1 : 0;
            int sum = 0;
            for (int line = 0; line < read.lines && sum != NONE; line++) {
                boolean voids = read.pointsOf(line) == NONE;
                if (!(voids && place > 0) && read.holds(line, facts, stack)) {
                    sum = voids ? NONE : sum + read.pointsOf(line) * borough.heaps[h].many;
                }
            }
            worths[at] = sum;
            ages[at] = age;
            return sum;
        }

        boolean isVoid(Borough borough, int h) {
            lookAt(borough);
            Heap heap = borough.heaps[h];
            return borough.standing > 0 && worth(borough, h, heap.paid, heap.slip[0], heap.slip[0], 0) == NONE;
        }

        void addSlip(Borough borough, int h, boolean paid, int[] slip, int[] sums) {
            lookAt(borough);
            if (borough.standing == 0 || worth(borough, h, paid, slip[0], slip[0], 0) == NONE) {
                return;
            }
            for (int p = 0; p < borough.standing; p++) {
                sums[slip[p]] += worth(borough, h, paid, slip[0], slip[p], p);
            }
        }

        void tally(Borough borough, int set, int[] sums) {
            Arrays.fill(sums, 0);
            for (int h = 0; h < borough.heapCount; h++) {
                if ((set >> h & 1) == 1) {
                    addSlip(borough, h, borough.heaps[h].paid, borough.heaps[h].slip, sums);
                }
            }
        }

        int choose(Borough borough, int set) {
            tally(borough, set, total);
            return mostOf(total, borough.standing);
        }

        /** Who is elected, if a heap had this slip; the others' sums must have been tallied. */
        private int chooseWith(Borough borough, int h, int[] slip) {
            System.arraycopy(others, 0, total, 0, STANDING_LIMIT);
            addSlip(borough, h, borough.heaps[h].paid, slip, total);
            return mostOf(total, borough.standing);
        }

        /** Who could be elected by any slip of a heap, as bits; the first order for each is kept until the next call. */
        int explore(Borough borough, int h) {
            int n = borough.standing;
            tally(borough, borough.allHeaps() & ~(1 << h), others);
            for (int p = 0; p < n; p++) {
                order[p] = p;
            }
            int could = 0;
            boolean more = n > 0;
            for (int i = 0; i < ORDERS && more; i++) {
                int chosen = chooseWith(borough, h, order);
                if ((could >> chosen & 1) == 0) {
                    could |= 1 << chosen;
                    System.arraycopy(order, 0, firstOrders, chosen * STANDING_LIMIT, STANDING_LIMIT);
                }
                more = could != (1 << n) - 1 && nextOrder(order, n);
            }
            return could;
        }

        int firstOrderFor(int one, int place) {
            return firstOrders[one * STANDING_LIMIT + place];
        }

        void compose(Borough borough, int h, int habit, int[] into) {
            int n = borough.standing;
            int[] want = borough.heaps[h].want;
            if (habit == 3) {
                System.arraycopy(borough.heaps[h].slip, 0, into, 0, n);
                return;
            }
            if (habit == 0 || n < 2) {
                System.arraycopy(want, 0, into, 0, n);
                return;
            }
            int second = want[0];
            if (habit == 2) {
                tally(borough, borough.allHeaps() & ~(1 << h), others);
                int reached = n;
                for (int p = 0; p < n - 1; p++) {
                    ledOrder(want, n, want[n - 1], want[p], into);
                    int place = placeOf(want, n, chooseWith(borough, h, into));
                    if (place < reached) {
                        reached = place;
                        second = want[p];
                    }
                }
            }
            ledOrder(want, n, want[n - 1], second, into);
        }

        /** How often another one became mayor. */
        int passYears(Borough borough, int years, boolean draws) {
            int changes = 0;
            for (int i = 0; i < years; i++) {
                int before = borough.mayor;
                passYear(borough, draws);
                changes += borough.mayor != NONE && borough.mayor != before ? 1 : 0;
            }
            return changes;
        }

        private void passYear(Borough borough, boolean draws) {
            int n = borough.standing;
            for (int h = 0; h < borough.heapCount; h++) {
                int[] slip = borough.heaps[h].slip;
                if (!borough.heaps[h].paid) {
                    compose(borough, h, borough.heaps[h].habit, written);
                    System.arraycopy(written, 0, slip, 0, n);
                }
                if (draws && borough.draw() % 100 < borough.stray) {
                    turnAbout(slip, 0, n);
                }
            }
            int elected = choose(borough, borough.allHeaps());
            int points = elected == NONE ? 0 : total[elected];
            borough.chronicle.add(borough.year, elected, points, mostBut(total, n, elected));
            borough.endYear(elected);
        }
    }
}
