import java.util.ArrayList;
import java.util.Arrays;
import java.util.HashSet;
import java.util.LinkedList;
import java.util.List;
import java.util.Set;

/**
 * The document once more, written as plainly as can be and in other ways than the program, to
 * compare the two: texts are read letter by letter into trees, ways are all tried out.
 */
final class Oracle {
    static final int NONE = -1;

    /** A fault of a text, thrown where it is found. */
    static final class Fault extends RuntimeException {
        private static final long serialVersionUID = 1L;
        final int number;

        Fault(int place, int why) {
            this.number = 1 + 8 * place + why;
        }
    }

    interface Sum {
        long of(Eyes eyes);
    }

    interface Test {
        boolean of(Eyes eyes);
    }

    record Clause(Sum sum, Test test) { }

    /** What a word stands for. */
    record Eyes(World world, int guest, int slice) {
        long word(String word) {
            switch (word) {
                case "guest": return guest;
                case "slice": return slice;
                case "kind": return world.kind.get(slice);
                case "size": return world.size.get(slice);
                case "likes": return world.like[guest][world.kind.get(slice)];
                case "worth": return world.worth(slice, guest);
                case "has": return world.has(guest, guest);
                case "rue": return world.rue.get(guest);
                case "free": return world.free().size();
                case "beside": {
                    int n = world.kind.size();
                    int many = 0;
                    for (int step : new int[] {1, n - 1}) {
                        many += world.owner.get((slice + step) % n) == guest ? 1 : 0;
                    }
                    return many;
                }
                case "mine": return world.owner.stream().filter(o -> o == guest).count();
                case "turn": return world.turn;
                default: throw new IllegalStateException(word);
            }
        }
    }

    /** All but the tape and the rules. */
    static final class World implements Cloneable {
        boolean told;
        int first;
        int stir;
        List<Integer> kind = new ArrayList<>();
        List<Integer> size = new ArrayList<>();
        List<Integer> toldRue = new ArrayList<>();
        List<Integer> rue = new ArrayList<>();
        int[][] like = new int[5][4];
        List<Integer> owner = new ArrayList<>();
        int turn;
        int force = NONE;
        int x;
        List<int[]> notes = new ArrayList<>();

        World copy() {
            World w = new World();
            w.told = told;
            w.first = first;
            w.stir = stir;
            w.kind.addAll(kind);
            w.size.addAll(size);
            w.toldRue.addAll(toldRue);
            w.rue.addAll(rue);
            for (int g = 0; g < 5; g++) {
                w.like[g] = like[g].clone();
            }
            w.owner.addAll(owner);
            w.turn = turn;
            w.force = force;
            w.x = x;
            w.notes.addAll(notes);
            return w;
        }

        World atBegin() {
            World w = copy();
            w.turn = 0;
            w.rue = new ArrayList<>(toldRue);
            for (int s = 0; s < w.owner.size(); s++) {
                w.owner.set(s, NONE);
            }
            return w;
        }

        int guests() {
            return rue.size();
        }

        int slices() {
            return kind.size();
        }

        int worth(int slice, int guest) {
            return size.get(slice) * like[guest][kind.get(slice)];
        }

        int has(int whose, int toWhom) {
            int sum = 0;
            for (int s = 0; s < slices(); s++) {
                sum += owner.get(s) == whose ? worth(s, toWhom) : 0;
            }
            return sum;
        }

        List<Integer> free() {
            List<Integer> list = new ArrayList<>();
            for (int s = 0; s < slices(); s++) {
                if (owner.get(s) == NONE) {
                    list.add(s);
                }
            }
            return list;
        }

        boolean content(int guest) {
            return has(guest, guest) >= rue.get(guest);
        }

        boolean envies(int g) {
            for (int h = 0; h < guests(); h++) {
                if (h != g && has(h, g) > has(g, g)) {
                    return true;
                }
            }
            return false;
        }

        boolean anyEnvy() {
            for (int g = 0; g < guests(); g++) {
                if (envies(g)) {
                    return true;
                }
            }
            return false;
        }

        void stirred(int g) {
            rue.set(g, Math.min(99, rue.get(g) + stir));
        }
    }

    private final LinkedList<Integer> tape = new LinkedList<>();
    private final List<List<Clause>> rules = new ArrayList<>();
    private World w = new World();
    private final LinkedList<World> past = new LinkedList<>();
    private final World[] images = new World[4];

    // ---- texts

    private int[] text;
    private int at;
    private int parts;

    private int sign() {
        while (at < text.length && text[at] == ' ') {
            at++;
        }
        return at < text.length ? text[at] : -1;
    }

    private static boolean digit(int c) {
        return c >= '0' && c <= '9';
    }

    private static boolean letter(int c) {
        return c >= 'a' && c <= 'z';
    }

    /** The word at hand, which is not gone behind; empty, if there is none. */
    private String word() {
        sign();
        StringBuilder b = new StringBuilder();
        for (int i = at; i < text.length && letter(text[i]); i++) {
            b.append((char) text[i]);
        }
        return b.toString();
    }

    private String digits() {
        sign();
        StringBuilder b = new StringBuilder();
        for (int i = at; i < text.length && digit(text[i]); i++) {
            b.append((char) text[i]);
        }
        return b.toString();
    }

    private void fault(int why) {
        sign();
        throw new Fault(at, why);
    }

    private int number(int least, int most) {
        String d = digits();
        if (d.isEmpty()) {
            fault(0);
        }
        if (d.length() > 5 || Integer.parseInt(d) < least || Integer.parseInt(d) > most) {
            fault(1);
        }
        at += d.length();
        return Integer.parseInt(d);
    }

    private boolean moreClauses() {
        int c = sign();
        if (c == -1) {
            return false;
        }
        if (c != ';') {
            fault(0);
        }
        at++;
        return true;
    }

    private World readFeast() {
        World f = new World();
        for (int[] row : f.like) {
            Arrays.fill(row, 1);
        }
        f.told = true;
        int clauses = 0;
        do {
            String word = word();
            if (!List.of("cake", "slice", "guest", "likes").contains(word)) {
                fault(0);
            }
            if (clauses == 40 || word.equals("cake") && clauses > 0 || !word.equals("cake") && clauses == 0) {
                fault(4);
            }
            if (word.equals("slice") && f.kind.size() == 10 || word.equals("guest") && f.rue.size() == 5) {
                fault(4);
            }
            at += word.length();
            clauses++;
            if (word.equals("cake")) {
                f.first = number(0, 4);
                f.stir = number(0, 9);
            } else if (word.equals("slice")) {
                int kind = number(0, 3);
                int size = number(1, 9);
                f.kind.add(kind);
                f.size.add(size);
                f.owner.add(NONE);
            } else if (word.equals("guest")) {
                int rue = number(0, 99);
                f.rue.add(rue);
                f.toldRue.add(rue);
            } else {
                int g = number(0, f.rue.size() - 1);
                int k = number(0, 3);
                f.like[g][k] = number(0, 9);
            }
        } while (moreClauses());
        return f;
    }

    private List<Clause> readRule() {
        List<Clause> list = new ArrayList<>();
        parts = 0;
        do {
            if (!word().equals("take")) {
                fault(0);
            }
            if (list.size() == 12) {
                fault(4);
            }
            at += 4;
            Sum sum = sum();
            Test test = null;
            if (word().equals("if")) {
                at += 2;
                test = test(0);
            }
            list.add(new Clause(sum, test));
        } while (moreClauses());
        return list;
    }

    private Test test(int depth) {
        Test a = part(depth);
        while (word().equals("or")) {
            at += 2;
            Test l = a;
            Test r = part(depth);
            a = e -> l.of(e) || r.of(e);
        }
        return a;
    }

    private Test part(int depth) {
        Test a = fact(depth);
        while (word().equals("and")) {
            at += 3;
            Test l = a;
            Test r = fact(depth);
            a = e -> l.of(e) && r.of(e);
        }
        return a;
    }

    private Test fact(int depth) {
        if (word().equals("not")) {
            if (depth == 10) {
                fault(2);
            }
            at += 3;
            Test t = fact(depth + 1);
            return e -> !t.of(e);
        }
        if (sign() == '[') {
            if (depth == 10) {
                fault(2);
            }
            at++;
            Test t = test(depth + 1);
            if (sign() != ']') {
                fault(0);
            }
            at++;
            return t;
        }
        Sum a = sum();
        int c = sign();
        if (c != '<' && c != '=' && c != '>') {
            fault(0);
        }
        if (parts == 60) {
            fault(3);
        }
        parts++;
        at++;
        boolean orSame = false;
        if (c != '=' && at < text.length && text[at] == '=') {
            orSame = true;
            at++;
        }
        boolean same = orSame || c == '=';
        Sum b = sum();
        return e -> {
            int order = Long.compare(a.of(e), b.of(e));
            return order == 0 ? same : order < 0 ? c == '<' : c == '>';
        };
    }

    private Sum sum() {
        Sum a = term();
        while (sign() == '+' || sign() == '-') {
            boolean plus = sign() == '+';
            at++;
            Sum l = a;
            Sum r = term();
            a = plus ? e -> l.of(e) + r.of(e) : e -> l.of(e) - r.of(e);
        }
        return a;
    }

    private Sum term() {
        Sum a = value();
        while (sign() == '*' || sign() == '/' || sign() == '%') {
            int c = sign();
            at++;
            Sum l = a;
            Sum r = value();
            a = e -> {
                long x = l.of(e);
                long y = r.of(e);
                if (c == '*') {
                    return x * y;
                }
                if (y == 0) {
                    return 0;
                }
                return c == '/' ? x / y : x % y;
            };
        }
        return a;
    }

    private Sum value() {
        String d = digits();
        String word = word();
        Set<String> words = new HashSet<>(Arrays.asList("guest", "slice", "kind", "size", "likes",
            "worth", "has", "rue", "free", "beside", "mine", "turn"));
        if (d.isEmpty() && !words.contains(word)) {
            fault(0);
        }
        if (d.length() > 5) {
            fault(1);
        }
        if (parts == 60) {
            fault(3);
        }
        parts++;
        at += d.length() + word.length();
        if (d.isEmpty()) {
            return e -> e.word(word);
        }
        long value = Long.parseLong(d);
        return e -> value;
    }

    private void openTape() {
        text = tape.stream().mapToInt(i -> i).toArray();
        at = 0;
        tape.clear();
    }

    // ---- turns

    private static int turn(World v, List<Clause> rule, Set<Integer> kept) {
        int taken = NONE;
        if (v.guests() > 0) {
            int g = (v.first + v.turn) % v.guests();
            if (!v.content(g)) {
                long best = 0;
                for (int s : v.free()) {
                    if (kept.contains(v.kind.get(s))) {
                        continue;
                    }
                    long sum = rule == null ? v.worth(s, g) : sumOf(rule, new Eyes(v, g, s));
                    if (sum > best) {
                        best = sum;
                        taken = s;
                    }
                }
            }
            if (taken != NONE) {
                v.owner.set(taken, g);
            }
        }
        v.turn++;
        return taken;
    }

    private static long sumOf(List<Clause> rule, Eyes eyes) {
        for (Clause c : rule) {
            if (c.test == null || c.test.of(eyes)) {
                return c.sum.of(eyes);
            }
        }
        return 0;
    }

    private List<Clause> ruleOf(int number) {
        return number == NONE ? null : rules.get(number);
    }

    private World after(World from, int n, Set<Integer> kept) {
        World v = from.copy();
        for (int i = 0; i < n; i++) {
            turn(v, ruleOf(w.force), kept);
        }
        return v;
    }

    private void act() {
        past.addLast(w.copy());
        if (past.size() > 20) {
            past.removeFirst();
        }
    }

    private boolean isSlice(int s) {
        return s >= 0 && s < w.slices();
    }

    private boolean isGuest(int g) {
        return g >= 0 && g < w.guests();
    }

    private static boolean in(int n, int least, int most) {
        return n >= least && n <= most;
    }

    // ---- the face

    int feed(int... five) {
        if (tape.size() + 20 > 400) {
            return NONE;
        }
        for (int n : five) {
            for (int shift = 24; shift >= 0; shift -= 8) {
                tape.add(n >> shift & 0xff);
            }
        }
        return tape.size();
    }

    int end(int n) {
        if (n < 0 || n > tape.size()) {
            return NONE;
        }
        while (tape.size() > n) {
            tape.removeLast();
        }
        return n;
    }

    int feast() {
        openTape();
        try {
            World f = readFeast();
            f.force = w.force;
            f.x = w.x;
            w = f;
            past.clear();
            return w.slices();
        } catch (Fault f) {
            return -2 - f.number;
        }
    }

    int rule() {
        if (rules.size() == 6) {
            return NONE;
        }
        openTape();
        try {
            rules.add(readRule());
            return rules.size() - 1;
        } catch (Fault f) {
            return -2 - f.number;
        }
    }

    int force(int r) {
        if (!in(r, NONE, rules.size() - 1)) {
            return -2;
        }
        int was = w.force;
        w.force = r;
        return was;
    }

    int slice(int s, int what) {
        if (!isSlice(s) || !in(what, 0, 2)) {
            return -2;
        }
        return List.of(w.kind, w.size, w.owner).get(what).get(s);
    }

    int guest(int g, int what) {
        if (!isGuest(g) || !in(what, 0, 6)) {
            return NONE;
        }
        int bits = 0;
        for (int s = 0; s < w.slices(); s++) {
            bits += w.owner.get(s) == g ? 1 << s : 0;
        }
        return what == 0 ? w.rue.get(g) : what == 1 ? w.has(g, g) : what == 2 ? bits : w.like[g][what - 3];
    }

    int turnOne() {
        if (!w.told || w.turn >= 999) {
            return -2;
        }
        act();
        return turn(w, ruleOf(w.force), Set.of());
    }

    int take(int g, int s) {
        if (!isGuest(g) || !isSlice(s) || w.owner.get(s) != NONE) {
            return NONE;
        }
        act();
        w.owner.set(s, g);
        return w.has(g, g);
    }

    int lay(int s) {
        if (!isSlice(s) || w.owner.get(s) == NONE) {
            return NONE;
        }
        act();
        return w.owner.set(s, NONE);
    }

    int swap(int a, int b) {
        if (!isSlice(a) || !isSlice(b) || w.owner.get(a) == NONE || w.owner.get(b) == NONE
            || w.owner.get(a).intValue() == w.owner.get(b)) {
            return NONE;
        }
        act();
        w.owner.set(b, w.owner.set(a, w.owner.get(b)));
        return 1;
    }

    int stir(int g) {
        if (!isGuest(g) || w.stir == 0) {
            return NONE;
        }
        act();
        w.stirred(g);
        return w.rue.get(g);
    }

    int undo() {
        if (past.isEmpty()) {
            return NONE;
        }
        World was = past.removeLast();
        w.owner = was.owner;
        w.rue = was.rue;
        w.turn = was.turn;
        return past.size();
    }

    int ahead(int number, int n, int what) {
        if (!w.told || !in(n, 0, 100) || !in(what, 0, 2) || what == 0 && !isSlice(number)
            || what == 1 && !isGuest(number)) {
            return -2;
        }
        World v = after(w, n, Set.of());
        return what == 0 ? v.owner.get(number) : what == 1 ? v.has(number, number) : v.free().size();
    }

    int left() {
        if (!w.told) {
            return NONE;
        }
        for (int n = 0; n < 100; n++) {
            World v = after(w, n, Set.of());
            if (v.free().isEmpty()) {
                return v.turn;
            }
        }
        return -2;
    }

    int envy() {
        if (!w.told) {
            return NONE;
        }
        int bits = 0;
        for (int g = 0; g < w.guests(); g++) {
            bits += w.envies(g) ? 1 << g : 0;
        }
        return bits;
    }

    int needs(int g, int what) {
        if (!isGuest(g) || !in(what, 0, 1)) {
            return NONE;
        }
        for (int many = 0; many <= 10; many++) {
            for (int set = 0; set < 1024; set++) {
                if (Integer.bitCount(set) == many && makesUp(g, set)) {
                    return what == 0 ? many : set;
                }
            }
        }
        return -2;
    }

    private boolean makesUp(int g, int set) {
        int sum = w.has(g, g);
        for (int s = 0; s < 10; s++) {
            if ((set & 1 << s) != 0) {
                if (!w.free().contains(s)) {
                    return false;
                }
                sum += w.worth(s, g);
            }
        }
        return sum >= w.rue.get(g);
    }

    int twos(int what) {
        if (!w.told || !in(what, 0, 2)) {
            return NONE;
        }
        List<int[]> found = new ArrayList<>();
        for (int a = 0; a < w.slices(); a++) {
            for (int b = a + 1; b < w.slices(); b++) {
                int g = w.owner.get(a);
                int h = w.owner.get(b);
                if (g == NONE || h == NONE || g == h) {
                    continue;
                }
                World v = w.copy();
                v.owner.set(a, h);
                v.owner.set(b, g);
                if (v.has(g, g) > w.has(g, g) && v.has(h, h) > w.has(h, h)) {
                    found.add(new int[] {a, b});
                }
            }
        }
        return what == 0 ? found.size() : found.isEmpty() ? -2 : found.get(0)[what - 1];
    }

    int round(int what) {
        if (!w.told || !in(what, NONE, 9)) {
            return -3;
        }
        int n = w.slices();
        int many = w.guests();
        if (many == 0 || n < many) {
            return -2;
        }
        int best = -1;
        int[] first = null;
        for (int cuts = 0; cuts < 1 << n; cuts++) {
            // a bit is a cut ahead of that slice; one guest alone: one cut anywhere, or none
            if (Integer.bitCount(cuts) != many) {
                continue;
            }
            for (int[] order : orders(many)) {
                int[] row = new int[n];
                int piece = 0;
                int start = Integer.numberOfTrailingZeros(cuts);
                int[] worths = new int[many];
                for (int i = 0; i < n; i++) {
                    int s = (start + i) % n;
                    if (i > 0 && (cuts & 1 << s) != 0) {
                        piece++;
                    }
                    row[s] = order[piece];
                    worths[order[piece]] += w.worth(s, order[piece]);
                }
                int least = Arrays.stream(worths).min().getAsInt();
                if (least > best || least == best && Arrays.compare(row, first) < 0) {
                    best = least;
                    first = row;
                }
            }
        }
        return what == NONE ? best : isSlice(what) ? first[what] : -2;
    }

    private static List<int[]> orders(int many) {
        List<int[]> list = new ArrayList<>();
        int all = 1;
        for (int i = 0; i < many; i++) {
            all *= many;
        }
        for (int code = 0; code < all; code++) {
            int[] row = new int[many];
            int rest = code;
            for (int i = 0; i < many; i++) {
                row[i] = rest % many;
                rest /= many;
            }
            if (Arrays.stream(row).distinct().count() == many) {
                list.add(row);
            }
        }
        return list;
    }

    int fair(int what) {
        if (!w.told || !in(what, NONE, 9) || w.free().size() > 6) {
            return -3;
        }
        List<Integer> free = w.free();
        int all = 1;
        for (int i = 0; i < free.size(); i++) {
            all *= w.guests();
        }
        int ways = 0;
        World first = null;
        for (int code = 0; code < all; code++) {
            World v = w.copy();
            int rest = code;
            for (int i = free.size() - 1; i >= 0; i--) {
                v.owner.set(free.get(i), rest % w.guests());
                rest /= w.guests();
            }
            if (!v.anyEnvy()) {
                first = first == null ? v : first;
                ways++;
            }
        }
        if (what == NONE) {
            return ways;
        }
        return first == null || !free.contains(what) ? -2 : first.owner.get(what);
    }

    int begin(int g, int n, int what) {
        if (!isGuest(g) || !in(n, 1, 60) || !in(what, 0, 1)) {
            return NONE;
        }
        int best = -1;
        int who = -1;
        for (int f = w.guests() - 1; f >= 0; f--) {
            World v = w.copy();
            v.first = f;
            int much = after(v, n, Set.of()).has(g, g);
            if (much >= best) {
                best = much;
                who = f;
            }
        }
        return what == 0 ? who : best;
    }

    int leave(int n, int what) {
        if (!w.told || !in(n, 1, 60) || !in(what, 0, 1)) {
            return -2;
        }
        int best = -1;
        int who = -1;
        for (int g = w.guests() - 1; g >= NONE; g--) {
            World v = w.copy();
            if (g != NONE) {
                v.rue.set(g, 0);
            }
            v = after(v, n, Set.of());
            int many = 0;
            for (int h = 0; h < w.guests(); h++) {
                many += h != g && v.content(h) ? 1 : 0;
            }
            if (many >= best) {
                best = many;
                who = g;
            }
        }
        return what == 0 ? who : best;
    }

    int kept(int n, int what) {
        if (!w.told || !in(n, 1, 60) || !in(what, 0, 1)) {
            return NONE;
        }
        for (int many = 0; many <= 4; many++) {
            for (int set = 0; set < 16; set++) {
                if (Integer.bitCount(set) != many) {
                    continue;
                }
                Set<Integer> kinds = new HashSet<>();
                for (int k = 0; k < 4; k++) {
                    if ((set & 1 << k) != 0) {
                        kinds.add(k);
                    }
                }
                if (!after(w, n, kinds).anyEnvy()) {
                    return what == 0 ? many : set;
                }
            }
        }
        return -2;
    }

    int game(int a, int b, int n, int what) {
        if (!isGuest(a) || !isGuest(b) || a == b || !in(n, 1, 4) || !in(what, 0, 1)) {
            return -1000;
        }
        int much = best(w.copy(), a, b, n, true);
        if (what == 0) {
            return much;
        }
        for (int s : w.free()) {
            World v = w.copy();
            v.owner.set(s, a);
            if (best(v, a, b, n - 1, false) == much) {
                return s;
            }
        }
        return NONE;
    }

    private static int best(World v, int a, int b, int n, boolean firstOne) {
        if (n == 0 || v.free().isEmpty()) {
            return v.has(a, a) - v.has(b, b);
        }
        List<Integer> ends = new ArrayList<>();
        for (int s : v.free()) {
            v.owner.set(s, firstOne ? a : b);
            ends.add(best(v, a, b, n - 1, !firstOne));
            v.owner.set(s, NONE);
        }
        ends.sort(null);
        return ends.get(firstOne ? ends.size() - 1 : 0);
    }

    int pence(int much, int g) {
        if (!isGuest(g) || !in(much, 0, 9999)) {
            return NONE;
        }
        List<Integer> rue = new ArrayList<>(w.rue);
        if (rue.stream().allMatch(r -> r == 0)) {
            rue.replaceAll(r -> 1);
        }
        int whole = rue.stream().mapToInt(r -> r).sum();
        int over = much;
        List<int[]> rows = new ArrayList<>();
        for (int h = 0; h < w.guests(); h++) {
            int part = much * rue.get(h) / whole;
            over -= part;
            rows.add(new int[] {h, part, much * rue.get(h) - part * whole});
        }
        rows.sort((p, q) -> p[2] != q[2] ? q[2] - p[2] : p[0] - q[0]);
        for (int i = 0; i < over; i++) {
            rows.get(i)[1]++;
        }
        return rows.stream().filter(r -> r[0] == g).findFirst().get()[1];
    }

    int note(int n, int s, int g) {
        if (n == NONE) {
            w.notes.clear();
            return 0;
        }
        if (!in(n, 0, 60) || !isSlice(s) || g != NONE && !isGuest(g) || w.notes.size() == 10) {
            return -2;
        }
        w.notes.add(new int[] {n, s, g});
        return w.notes.size();
    }

    /** What is behind the TURN of number n, that TURN done. */
    private World behind(int rule, int n) {
        World v = w.atBegin();
        while (v.turn <= n) {
            turn(v, ruleOf(rule), Set.of());
        }
        return v;
    }

    private List<Integer> fitting() {
        List<Integer> list = new ArrayList<>();
        for (int r = NONE; r < rules.size(); r++) {
            int rule = r;
            if (w.notes.stream().allMatch(t -> behind(rule, t[0]).owner.get(t[1]) == t[2])) {
                list.add(r);
            }
        }
        return list;
    }

    int ruled(int what) {
        if (!w.told || !in(what, 0, 1)) {
            return -3;
        }
        List<Integer> list = fitting();
        return what == 0 ? list.size() : list.isEmpty() ? -2 : list.get(0);
    }

    int look(int n, int what) {
        if (!w.told || !in(n, 0, 60) || !in(what, 0, 1)) {
            return NONE;
        }
        List<Integer> list = fitting();
        int best = -2;
        int fewest = -2;
        for (int s = 0; s < w.slices() && !list.isEmpty(); s++) {
            int[] many = new int[6];
            for (int r : list) {
                many[behind(r, n).owner.get(s) + 1]++;
            }
            int most = Arrays.stream(many).max().getAsInt();
            if (best == -2 || most < fewest) {
                best = s;
                fewest = most;
            }
        }
        return what == 0 ? best : fewest;
    }

    int seed(int x) {
        if (x < 0) {
            return NONE;
        }
        int was = w.x;
        w.x = x;
        return was;
    }

    int flames(int m, int n, int p, int what) {
        if (!w.told || !in(m, 1, 10) || !in(n, 1, 60) || !in(p, 0, 100) || !in(what, 0, 1)) {
            return NONE;
        }
        long[] x = {w.x};
        int free = 0;
        int less = 0;
        for (int i = 0; i < m; i++) {
            World v = w.copy();
            for (int j = 0; j < n; j++) {
                if (draw(x) % 100 < p && w.guests() > 0) {
                    v.stirred((int) (draw(x) % w.guests()));
                }
                turn(v, ruleOf(w.force), Set.of());
            }
            free += v.free().size();
            for (int g = 0; g < v.guests(); g++) {
                less += v.content(g) ? 0 : 1;
            }
        }
        return what == 0 ? free : less;
    }

    private static long draw(long[] x) {
        x[0] = Math.floorMod(x[0] * 1103515245L + 12345L, 2147483648L);
        return x[0] / 65536;
    }

    int count(int what) {
        int bits = 0;
        for (int g = 0; g < w.guests(); g++) {
            bits += w.content(g) ? 1 << g : 0;
        }
        int free = 0;
        for (int s : w.free()) {
            free += 1 << s;
        }
        int whose = w.guests() == 0 ? NONE : (w.first + w.turn) % w.guests();
        int[] all = {w.first, w.stir, w.slices(), w.guests(), rules.size(), w.force, w.turn, whose,
            free, bits, w.notes.size(), past.size(), w.x, tape.size()};
        return in(what, 0, 13) ? all[what] : NONE;
    }

    int image(int k) {
        if (!in(k, 0, 3)) {
            return NONE;
        }
        images[k] = w.copy();
        return w.turn;
    }

    int back(int k) {
        if (!in(k, 0, 3) || images[k] == null) {
            return NONE;
        }
        w = images[k].copy();
        past.clear();
        return w.turn;
    }
}
