import java.util.ArrayList;
import java.util.Arrays;
import java.util.Collections;
import java.util.LinkedList;
import java.util.List;
import java.util.NoSuchElementException;
import java.util.function.BiFunction;

/**
 * The document once more, in lists and without regard to speed: nothing is kept between calls but the state itself.
 * ModelTest holds SecondPlace against it. Its methods bear the face's names, so that both can be called by name.
 */
final class Model {
    /** Of one on a slip: 0 place, 1 one, 2 first, 3 standing, 4 many, 5 year, 6 paid, 7 last. */
    interface Cond {
        boolean holds(int[] of);
    }

    interface Sum {
        int value(int[] of);
    }

    static final class Rule {
        boolean voids;
        int n;
        Cond cond = of -> true;
    }

    static final class Group {
        int many;
        int habit;
        int price;
        boolean paid;
        List<Integer> want = new ArrayList<>();
        List<Integer> slip = new ArrayList<>();

        Group copy() {
            Group g = new Group();
            g.many = many;
            g.habit = habit;
            g.price = price;
            g.paid = paid;
            g.want = new ArrayList<>(want);
            g.slip = new ArrayList<>(slip);
            return g;
        }
    }

    static final class State {
        int standing;
        int texts;
        int stray;
        int year;
        int mayor = -1;
        int seed = 1;
        List<Group> groups = new ArrayList<>();
        List<Rule> rules = null;
        LinkedList<int[]> log = new LinkedList<>();

        State copy() {
            State s = new State();
            s.standing = standing;
            s.texts = texts;
            s.stray = stray;
            s.year = year;
            s.mayor = mayor;
            s.seed = seed;
            for (Group g : groups) {
                s.groups.add(g.copy());
            }
            s.rules = rules;
            s.log = new LinkedList<>(log);
            return s;
        }

        boolean isVoid(Group g) {
            if (rules == null || standing == 0) {
                return false;
            }
            return rules.stream().anyMatch(r -> r.voids && r.cond.holds(facts(g, 0)));
        }

        int[] facts(Group g, int place) {
            return new int[] {place, g.slip.get(place), g.slip.get(0), standing, g.many, year, g.paid ? 1 : 0,
                place + 1 == standing ? 1 : 0};
        }

        int given(Group g, int one) {
            int place = g.slip.indexOf(one);
            if (rules == null) {
                return place == 1 ? g.many : 0;
            }
            if (isVoid(g)) {
                return 0;
            }
            int sum = 0;
            for (Rule r : rules) {
                sum += !r.voids && r.cond.holds(facts(g, place)) ? r.n : 0;
            }
            return sum * g.many;
        }

        int pointsOf(int one) {
            return groups.stream().mapToInt(g -> given(g, one)).sum();
        }

        int chosen() {
            int best = -1;
            for (int i = standing - 1; i >= 0; i--) {
                if (best < 0 || pointsOf(i) >= pointsOf(best)) {
                    best = i;
                }
            }
            return best;
        }

        int nextBest(int but) {
            int most = 0;
            for (int i = 0; i < standing; i++) {
                most = i == but ? most : Math.max(most, pointsOf(i));
            }
            return most;
        }

        List<Integer> byHabit(int at, int habit) {
            Group g = groups.get(at);
            if (habit == 3) {
                return new ArrayList<>(g.slip);
            }
            if (habit == 0 || standing < 2) {
                return new ArrayList<>(g.want);
            }
            int last = g.want.get(standing - 1);
            if (habit == 1) {
                return front(g.want, last, g.want.get(0));
            }
            int bestRank = 99;
            List<Integer> best = null;
            for (int x : g.want) {
                if (x == last) {
                    continue;
                }
                State s = copy();
                s.groups.get(at).slip = front(g.want, last, x);
                int rank = g.want.indexOf(s.chosen());
                if (rank < bestRank) {
                    bestRank = rank;
                    best = front(g.want, last, x);
                }
            }
            return best;
        }

        void payFor(int at, int one) {
            Group g = groups.get(at);
            g.paid = true;
            if (standing > 1) {
                List<Integer> others = new ArrayList<>(g.want);
                others.remove((Integer) one);
                g.slip = front(g.want, others.get(others.size() - 1), one);
            }
        }

        void leaves(int one) {
            for (Group g : groups) {
                for (List<Integer> order : List.of(g.want, g.slip)) {
                    order.remove((Integer) one);
                    order.replaceAll(v -> v > one ? v - 1 : v);
                }
            }
            standing--;
            mayor = mayor == one ? -1 : mayor > one ? mayor - 1 : mayor;
        }

        int draw() {
            long next = 1103515245L * seed + 12345L;
            seed = (int) next;
            return seed >> 16 & 0x7fff;
        }

        boolean oneYear(boolean draws) {
            for (int i = 0; i < groups.size(); i++) {
                Group g = groups.get(i);
                if (!g.paid) {
                    g.slip = byHabit(i, g.habit);
                }
                if (draws && draw() % 100 < stray) {
                    Collections.reverse(g.slip);
                }
            }
            int before = mayor;
            mayor = chosen();
            log.addFirst(new int[] {year, mayor, mayor < 0 ? 0 : pointsOf(mayor), nextBest(mayor)});
            while (log.size() > 60) {
                log.removeLast();
            }
            groups.forEach(g -> g.paid = false);
            year = year < 9999 ? year + 1 : 9999;
            return mayor >= 0 && mayor != before;
        }

        int pass(int n, boolean draws) {
            int changes = 0;
            for (int i = 0; i < n; i++) {
                changes += oneYear(draws) ? 1 : 0;
            }
            return changes;
        }

        List<List<Integer>> slips() {
            List<List<Integer>> all = new ArrayList<>();
            groups.forEach(g -> all.add(new ArrayList<>(g.slip)));
            return all;
        }
    }

    static List<Integer> front(List<Integer> want, int first, int second) {
        List<Integer> rest = new ArrayList<>(want);
        rest.remove((Integer) first);
        rest.remove((Integer) second);
        rest.add(0, second);
        rest.add(0, first);
        return rest;
    }

    static void orders(List<Integer> begun, int n, List<List<Integer>> into) {
        if (begun.size() == n) {
            into.add(new ArrayList<>(begun));
        }
        for (int i = 0; i < n; i++) {
            if (!begun.contains(i)) {
                begun.add(i);
                orders(begun, n, into);
                begun.remove(begun.size() - 1);
            }
        }
    }

    private State s = new State();
    private State kept = null;
    private final LinkedList<State> past = new LinkedList<>();
    private byte[] tape = new byte[0];
    private int fault = -1;

    Model() {
    }

    // ---- texts

    private static final class Wrong extends Exception {
        private static final long serialVersionUID = 1L;
        final int at;

        Wrong(int at) {
            this.at = at;
        }
    }

    private static final class Token {
        String text;
        int at;
    }

    private List<Token> tokens = new ArrayList<>();
    private int next;

    private void split() {
        tokens = new ArrayList<>();
        next = 0;
        int i = 0;
        while (i <= tape.length) {
            Token t = new Token();
            t.at = i;
            int to = i + 1;
            if (i == tape.length) {
                t.text = "";
            } else if (tape[i] == ' ') {
                i++;
                continue;
            } else {
                while (to < tape.length && (letter(tape[i]) && letter(tape[to]) || digit(tape[i]) && digit(tape[to]))) {
                    to++;
                }
                t.text = new String(tape, i, to - i, java.nio.charset.StandardCharsets.ISO_8859_1);
            }
            tokens.add(t);
            i = to;
        }
        tape = new byte[0];
    }

    private static boolean letter(int c) {
        return c >= 'a' && c <= 'z';
    }

    private static boolean digit(int c) {
        return c >= '0' && c <= '9';
    }

    private Token peek() {
        return tokens.get(next);
    }

    private boolean take(String text) {
        if (peek().text.equals(text)) {
            next++;
            return true;
        }
        return false;
    }

    private void must(String text) throws Wrong {
        if (!take(text)) {
            throw new Wrong(peek().at);
        }
    }

    private int num(int low, int high) throws Wrong {
        Token t = peek();
        if (!t.text.matches("[0-9]{1,3}") || Integer.parseInt(t.text) < low || Integer.parseInt(t.text) > high) {
            throw new Wrong(t.at);
        }
        next++;
        return Integer.parseInt(t.text);
    }

    private List<Integer> orderWord(int standing) throws Wrong {
        Token t = peek();
        List<Integer> order = new ArrayList<>();
        for (char c : t.text.toCharArray()) {
            order.add(c - 'a');
        }
        List<Integer> sorted = new ArrayList<>(order);
        Collections.sort(sorted);
        List<Integer> all = new ArrayList<>();
        for (int i = 0; i < standing; i++) {
            all.add(i);
        }
        if (order.isEmpty() || !sorted.equals(all)) {
            throw new Wrong(t.at);
        }
        next++;
        return order;
    }

    interface LineReader {
        void read(int at) throws Wrong;
    }

    private int readLines(int most, LineReader line) throws Wrong {
        if (take("")) {
            return 0;
        }
        int lines = 0;
        while (true) {
            if (lines == most) {
                throw new Wrong(peek().at);
            }
            line.read(peek().at);
            lines++;
            if (peek().text.isEmpty()) {
                return lines;
            }
            must(";");
        }
    }

    int borough() {
        State t = s.copy();
        split();
        fault = -1;
        try {
            readLines(14, at -> boroughLine(t, at));
        } catch (Wrong w) {
            fault = w.at;
            throw new IllegalArgumentException();
        }
        if (s.texts == 12) {
            throw new UnsupportedOperationException();
        }
        s = t;
        past.clear();
        return ++s.texts;
    }

    private void boroughLine(State t, int at) throws Wrong {
        if (take("stand")) {
            if (t.standing == 6) {
                throw new Wrong(at);
            }
            for (Group g : t.groups) {
                g.want.add(t.standing);
                g.slip.add(t.standing);
            }
            t.standing++;
        } else if (take("heap")) {
            if (t.groups.size() == 8) {
                throw new Wrong(at);
            }
            Group g = new Group();
            g.many = num(1, 20);
            must("want");
            g.want = orderWord(t.standing);
            must("slip");
            g.slip = orderWord(t.standing);
            g.habit = take("habit") ? num(0, 3) : 0;
            must("price");
            g.price = num(1, 99);
            t.groups.add(g);
        } else {
            must("stray");
            t.stray = num(0, 100);
        }
    }

    int law() {
        List<Rule> rules = new ArrayList<>();
        split();
        fault = -1;
        try {
            readLines(12, at -> rules.add(rule()));
        } catch (Wrong w) {
            fault = w.at;
            throw new IllegalArgumentException();
        }
        s.rules = rules;
        past.clear();
        return rules.size();
    }

    private Rule rule() throws Wrong {
        Rule r = new Rule();
        if (take("give")) {
            r.n = num(0, 20);
        } else {
            must("void");
            r.voids = true;
        }
        if (take("if")) {
            r.cond = any(0);
        }
        return r;
    }

    private Cond any(int deep) throws Wrong {
        Cond a = all(deep);
        if (!take("or")) {
            return a;
        }
        Cond b = any(deep);
        return of -> a.holds(of) || b.holds(of);
    }

    private Cond all(int deep) throws Wrong {
        Cond a = atom(deep);
        if (!take("and")) {
            return a;
        }
        Cond b = all(deep);
        return of -> a.holds(of) && b.holds(of);
    }

    private Cond atom(int deep) throws Wrong {
        Token t = peek();
        if ((t.text.equals("not") || t.text.equals("(")) && deep == 6) {
            throw new Wrong(t.at);
        }
        if (take("not")) {
            Cond a = atom(deep + 1);
            return of -> !a.holds(of);
        }
        if (take("(")) {
            Cond a = any(deep + 1);
            must(")");
            return a;
        }
        if (take("paid")) {
            return of -> of[6] == 1;
        }
        if (take("last")) {
            return of -> of[7] == 1;
        }
        Sum a = sum();
        if (take("<")) {
            Sum b = sum();
            return of -> a.value(of) < b.value(of);
        }
        must(">");
        Sum b = sum();
        return of -> a.value(of) > b.value(of);
    }

    private Sum sum() throws Wrong {
        Sum a = part();
        if (!take("+")) {
            return a;
        }
        Sum b = sum();
        return of -> a.value(of) + b.value(of);
    }

    private Sum part() throws Wrong {
        int fact = Arrays.asList("place", "one", "first", "standing", "many", "year").indexOf(peek().text);
        if (fact >= 0) {
            next++;
            return of -> of[fact];
        }
        int n = num(0, 999);
        return of -> n;
    }

    // ---- the face

    int feed(int a, int b, int c, int d, int e) {
        if (tape.length + 20 > 400) {
            return -1;
        }
        java.nio.ByteBuffer buffer = java.nio.ByteBuffer.allocate(tape.length + 20);
        buffer.put(tape).putInt(a).putInt(b).putInt(c).putInt(d).putInt(e);
        tape = buffer.array();
        return tape.length;
    }

    boolean end(int n) {
        if (n < 0 || n > tape.length) {
            return false;
        }
        tape = Arrays.copyOf(tape, n);
        return true;
    }

    int fault() {
        return fault;
    }

    private Group group(int heap) {
        if (heap < 0 || heap >= s.groups.size()) {
            throw new IndexOutOfBoundsException();
        }
        return s.groups.get(heap);
    }

    private void stands(int... ones) {
        for (int one : ones) {
            if (one < 0 || one >= s.standing) {
                throw new IndexOutOfBoundsException();
            }
        }
    }

    private static void fits(boolean ok) {
        if (!ok) {
            throw new IllegalArgumentException();
        }
    }

    private void act() {
        past.addFirst(s.copy());
        while (past.size() > 12) {
            past.removeLast();
        }
    }

    int heap(int heap, int what) {
        Group g = group(heap);
        switch (what) {
            case 0: return g.many;
            case 1: return g.habit;
            case 2: return g.price;
            case 3: return g.paid ? 1 : 0;
            case 4: return s.isVoid(g) ? 1 : 0;
            case 5: return unlike(g.want, g.slip);
            case 6: return bits(3, h -> s.byHabit(heap, h).equals(g.slip));
            case 7: return could(heap);
            default: throw new NoSuchElementException();
        }
    }

    private static int unlike(List<Integer> a, List<Integer> b) {
        int n = 0;
        for (int i = 0; i < a.size(); i++) {
            n += a.get(i).equals(b.get(i)) ? 0 : 1;
        }
        return n;
    }

    interface Test {
        boolean is(int i);
    }

    private static int bits(int n, Test test) {
        int set = 0;
        for (int i = 0; i < n; i++) {
            set += test.is(i) ? 1 << i : 0;
        }
        return set;
    }

    private int chosenWith(int heap, List<Integer> slip) {
        List<Integer> was = s.groups.get(heap).slip;
        s.groups.get(heap).slip = slip;
        int chosen = s.chosen();
        s.groups.get(heap).slip = was;
        return chosen;
    }

    private List<List<Integer>> allOrders() {
        List<List<Integer>> all = new ArrayList<>();
        orders(new ArrayList<>(), s.standing, all);
        return all;
    }

    private int could(int heap) {
        int set = 0;
        for (List<Integer> order : allOrders()) {
            int chosen = chosenWith(heap, order);
            set |= chosen < 0 ? 0 : 1 << chosen;
        }
        return set;
    }

    int place(int heap, int place, boolean want) {
        List<Integer> order = want ? group(heap).want : group(heap).slip;
        return place < 0 || place >= order.size() ? -1 : order.get(place);
    }

    int points(int one) {
        stands(one);
        return s.pointsOf(one);
    }

    int gives(int heap, int one) {
        Group g = group(heap);
        stands(one);
        return s.given(g, one);
    }

    int elected() {
        return s.chosen();
    }

    int write(int heap) {
        List<Integer> order = new ArrayList<>();
        for (byte b : tape) {
            order.add(b & 255);
        }
        tape = new byte[0];
        Group g = group(heap);
        List<Integer> sorted = new ArrayList<>(order);
        Collections.sort(sorted);
        boolean ok = order.size() == s.standing;
        for (int i = 0; ok && i < sorted.size(); i++) {
            ok = sorted.get(i) == i;
        }
        fits(ok);
        act();
        int changed = unlike(g.slip, order);
        g.slip = order;
        return changed;
    }

    int habit(int heap, int n) {
        Group g = group(heap);
        fits(n >= 0 && n <= 3);
        act();
        int was = g.habit;
        g.habit = n;
        return was;
    }

    int leave(int one) {
        stands(one);
        act();
        s.leaves(one);
        return s.standing;
    }

    int pay(int heap, int one) {
        Group g = group(heap);
        stands(one);
        if (g.paid) {
            throw new IllegalStateException();
        }
        act();
        s.payFor(heap, one);
        return g.price * g.many;
    }

    int want(int heap, int place, int other) {
        Group g = group(heap);
        fits(place >= 0 && other >= 0 && place < s.standing && other < s.standing && place != other);
        act();
        Collections.swap(g.want, place, other);
        return g.want.get(place);
    }

    int years(int n) {
        fits(n >= 1 && n <= 60);
        act();
        return s.pass(n, true);
    }

    int writes(int heap, int habit, int place) {
        group(heap);
        fits(habit >= 0 && habit <= 3);
        List<Integer> order = s.byHabit(heap, habit);
        return place < 0 || place >= order.size() ? -1 : order.get(place);
    }

    private int votes(boolean wants, BiFunction<List<Integer>, Integer, Integer> score) {
        int sum = 0;
        for (Group g : s.groups) {
            List<Integer> order = wants ? g.want : g.slip;
            sum += g.many * score.apply(order, order.size());
        }
        return sum;
    }

    private int aheadOf(int a, int b, boolean wants) {
        return votes(wants, (o, n) -> o.indexOf(a) < o.indexOf(b) ? 1 : 0);
    }

    private int score(int law, int one, boolean wants) {
        switch (law) {
            case 0:
            case 4: return votes(wants, (o, n) -> o.get(0) == one ? 1 : 0);
            case 1: return votes(wants, (o, n) -> n > 1 && o.get(1) == one ? 1 : 0);
            case 2: return 2 * score(0, one, wants) + score(1, one, wants);
            case 3: return votes(wants, (o, n) -> n - 1 - o.indexOf(one));
            default: return -votes(wants, (o, n) -> o.get(n - 1) == one ? 1 : 0);
        }
    }

    int by(int law, boolean wants) {
        if (law < 0 || law > 5) {
            throw new IndexOutOfBoundsException();
        }
        List<Integer> ranked = new ArrayList<>();
        for (int i = 0; i < s.standing; i++) {
            ranked.add(i);
        }
        ranked.sort((a, b) -> score(law, b, wants) - score(law, a, wants));
        if (ranked.isEmpty()) {
            return -1;
        }
        if (law != 4 || ranked.size() == 1) {
            return ranked.get(0);
        }
        int a = Math.min(ranked.get(0), ranked.get(1));
        int b = Math.max(ranked.get(0), ranked.get(1));
        return aheadOf(a, b, wants) >= aheadOf(b, a, wants) ? a : b;
    }

    boolean beats(int one, int other) {
        stands(one, other);
        fits(one != other);
        return 2 * aheadOf(one, other, true) > count(7);
    }

    int champion() {
        for (int i = 0; i < s.standing; i++) {
            boolean all = true;
            for (int j = 0; j < s.standing; j++) {
                all &= i == j || beats(i, j);
            }
            if (all) {
                return i;
            }
        }
        return -1;
    }

    int ring() {
        int found = 0;
        for (int a = 0; a < s.standing; a++) {
            for (int b = 0; b < s.standing; b++) {
                for (int c = 0; c < s.standing; c++) {
                    found += a != b && b != c && a != c && beats(a, b) && beats(b, c) && beats(c, a) ? 1 : 0;
                }
            }
        }
        return found / 3;
    }

    int worst() {
        int worst = -1;
        for (int i = s.standing - 1; i >= 0; i--) {
            worst = worst < 0 || score(5, i, true) <= score(5, worst, true) ? i : worst;
        }
        return worst;
    }

    int harm(int one) {
        stands(one);
        return votes(true, (o, n) -> o.indexOf(one));
    }

    int least(boolean gap) {
        int least = -1;
        for (int i = s.standing - 1; i >= 0; i--) {
            least = least < 0 || harm(i) <= harm(least) ? i : least;
        }
        return !gap ? least : s.standing == 0 ? 0 : harm(s.chosen()) - harm(least);
    }

    int spoilers() {
        int chosen = s.chosen();
        return bits(s.standing, i -> {
            State t = s.copy();
            // The one elected is followed through the leaving as mayors are.
            t.mayor = chosen;
            t.leaves(i);
            return i != chosen && t.chosen() != t.mayor;
        });
    }

    int twins() {
        int pairs = 0;
        for (int a = 0; a < s.standing; a++) {
            for (int b = 0; b < a; b++) {
                int x = a;
                int y = b;
                pairs += s.groups.stream().allMatch(g -> Math.abs(g.want.indexOf(x) - g.want.indexOf(y)) == 1) ? 1 : 0;
            }
        }
        return pairs;
    }

    private int cost(int set) {
        int cost = 0;
        for (int i = 0; i < s.groups.size(); i++) {
            cost += (set >> i) % 2 * s.groups.get(i).price * s.groups.get(i).many;
        }
        return cost;
    }

    private List<Integer> buyable(int one) {
        List<Integer> sets = new ArrayList<>();
        for (int set = 0; set < 1 << s.groups.size(); set++) {
            State t = s.copy();
            for (int i = 0; i < s.groups.size(); i++) {
                if ((set >> i) % 2 == 1) {
                    t.payFor(i, one);
                }
            }
            if (t.chosen() == one) {
                sets.add(set);
            }
        }
        return sets;
    }

    int friends(int one) {
        stands(one);
        List<Integer> sets = buyable(one);
        sets.sort((a, b) -> Integer.bitCount(a) * 1000 + a - Integer.bitCount(b) * 1000 - b);
        return sets.isEmpty() ? -1 : sets.get(0);
    }

    int cheapest(int one, boolean much) {
        stands(one);
        List<Integer> sets = buyable(one);
        sets.sort((a, b) -> cost(a) * 1000 + a - cost(b) * 1000 - b);
        return sets.isEmpty() ? -1 : much ? cost(sets.get(0)) : sets.get(0);
    }

    boolean gains(int heap) {
        Group g = group(heap);
        int could = could(heap);
        for (int one : g.want) {
            if (one == s.chosen()) {
                return false;
            }
            if ((could >> one) % 2 == 1) {
                return true;
            }
        }
        return false;
    }

    boolean rests() {
        for (int i = 0; i < s.groups.size(); i++) {
            if (gains(i)) {
                return false;
            }
        }
        return true;
    }

    int best(int heap, int k) {
        Group g = group(heap);
        if (k < 0 || k >= s.standing) {
            return -1;
        }
        int could = could(heap);
        for (int one : g.want) {
            if ((could >> one) % 2 == 1) {
                for (List<Integer> order : allOrders()) {
                    if (chosenWith(heap, order) == one) {
                        return order.get(k);
                    }
                }
            }
        }
        return -1;
    }

    private State aheadBy(int n) {
        State t = s.copy();
        t.pass(n, false);
        return t;
    }

    int ahead(int n) {
        fits(n >= 0 && n <= 40);
        return aheadBy(n).mayor;
    }

    int settles() {
        for (int n = 0; n <= 40; n++) {
            if (aheadBy(n).slips().equals(aheadBy(n + 1).slips())) {
                return n;
            }
        }
        return -1;
    }

    int round() {
        for (int p = 1; p <= 12; p++) {
            if (aheadBy(40).slips().equals(aheadBy(40 - p).slips())) {
                return p;
            }
        }
        return -1;
    }

    int laws(boolean champion) {
        int due = champion ? champion() : least(false);
        return due < 0 ? 0 : bits(6, l -> by(l, false) == due);
    }

    int samples(int k, boolean all) {
        fits(k >= 1 && k <= 8);
        int of = 0;
        int same = 0;
        for (int set = 0; set < 1 << s.groups.size(); set++) {
            if (Integer.bitCount(set) == k) {
                State t = s.copy();
                for (int i = s.groups.size() - 1; i >= 0; i--) {
                    if ((set >> i) % 2 == 0) {
                        t.groups.remove(i);
                    }
                }
                of++;
                same += t.chosen() == s.chosen() ? 1 : 0;
            }
        }
        return all ? of : same;
    }

    int bought(int one) {
        stands(one);
        return bits(s.groups.size(), i -> s.groups.get(i).slip.indexOf(one) == 1 && s.groups.get(i).want.get(0) != one);
    }

    int over(int one, int other) {
        stands(one, other);
        fits(one != other);
        return aheadOf(one, other, false);
    }

    int margin() {
        return s.standing == 0 ? 0 : s.pointsOf(s.chosen()) - s.nextBest(s.chosen());
    }

    int trial(int n, boolean changes) {
        fits(n >= 0 && n <= 40);
        State t = s.copy();
        int times = t.pass(n, true);
        return changes ? times : t.mayor;
    }

    int span(int n, boolean most) {
        fits(n >= 0 && n <= 40);
        List<Integer> times = new ArrayList<>();
        for (int seed = 1; seed <= 6; seed++) {
            State t = s.copy();
            t.seed = seed;
            times.add(t.pass(n, true));
        }
        return most ? Collections.max(times) : Collections.min(times);
    }

    int led(int one, boolean year) {
        stands(one);
        int rows = 0;
        int latest = -1;
        for (int[] row : s.log) {
            if (row[1] == one) {
                rows++;
                latest = Math.max(latest, row[0]);
            }
        }
        return year ? latest : rows;
    }

    int log(int ago, int what) {
        if (what < 0 || what > 3) {
            throw new NoSuchElementException();
        }
        return ago < 0 || ago >= s.log.size() ? -99 : s.log.get(ago)[what];
    }

    int seed(int n) {
        int was = s.seed;
        s.seed = n;
        return was;
    }

    boolean undo() {
        if (past.isEmpty()) {
            return false;
        }
        s = past.removeFirst();
        return true;
    }

    void image() {
        kept = s.copy();
    }

    boolean back() {
        if (kept == null) {
            return false;
        }
        s = kept.copy();
        past.clear();
        return true;
    }

    int count(int what) {
        switch (what) {
            case 0: return s.standing;
            case 1: return s.groups.size();
            case 2: return s.texts;
            case 3: return s.rules == null ? -1 : s.rules.size();
            case 4: return s.year;
            case 5: return s.mayor;
            case 6: return s.stray;
            case 7: return s.groups.stream().mapToInt(g -> g.many).sum();
            case 8: return bits(s.groups.size(), i -> s.isVoid(s.groups.get(i)));
            case 9: return s.log.size();
            case 10: return past.size();
            default: return -1;
        }
    }
}
