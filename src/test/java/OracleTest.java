import java.util.Random;

/** Random runs of calls, each answered by the program and by the oracle. */
public final class OracleTest {
    private static final String[] CALLS = {"force", "slice", "guest", "turnOne", "take", "lay", "swap",
        "stir", "undo", "ahead", "left", "envy", "needs", "twos", "round", "fair", "begin", "leave",
        "kept", "game", "pence", "note", "ruled", "look", "seed", "flames", "count", "image", "back",
        "tellFeast", "tellRule", "tellOdd"};
    /** How often each of these is called; turns and acts more often, dear ones less. */
    private static final int[] WEIGHTS = {6, 6, 8, 12, 14, 5, 8,
        6, 8, 6, 2, 5, 6, 5, 2, 3, 4, 4,
        4, 4, 5, 5, 4, 4, 2, 4, 14, 2, 2,
        1, 2, 2};
    private static final String[] WORDS = {"guest", "slice", "kind", "size", "likes", "worth", "has",
        "rue", "free", "beside", "mine", "turn"};

    private final Random random;
    private final RueCake cake = new RueCake();
    private final Oracle oracle = new Oracle();
    private final StringBuilder story = new StringBuilder();
    private int slices = 10;
    private int guests = 5;
    private int wrong;

    private OracleTest(long seed) {
        random = new Random(seed);
    }

    public static void main(String[] args) {
        int runs = args.length > 0 ? Integer.parseInt(args[0]) : 400;
        long base = args.length > 1 ? Long.parseLong(args[1]) : 1;
        int wrong = 0;
        for (int run = 0; run < runs && wrong == 0; run++) {
            OracleTest test = new OracleTest(base * 1000003 + run);
            test.run(run % 4 == 0 ? 30 : 150);
            wrong += test.wrong;
            if (test.wrong > 0) {
                System.out.println("run " + run + ":\n" + test.story);
            }
        }
        System.out.println(wrong == 0 ? "all answers are the oracle's" : wrong + " answers are not");
        if (wrong != 0) {
            System.exit(1);
        }
    }

    private void run(int calls) {
        if (random.nextInt(8) != 0) {
            tell(feastText(), true);
            for (int i = random.nextInt(5); i > 0; i--) {
                tell(ruleText(), false);
            }
        }
        for (int i = 0; i < calls && wrong == 0; i++) {
            call(pick());
        }
    }

    private String pick() {
        int sum = 0;
        for (int weight : WEIGHTS) {
            sum += weight;
        }
        int at = random.nextInt(sum);
        int i = 0;
        while (at >= WEIGHTS[i]) {
            at -= WEIGHTS[i];
            i++;
        }
        return CALLS[i];
    }

    private void due(String call, int got, int want) {
        story.append(call).append(" = ").append(want).append('\n');
        if (got != want) {
            wrong++;
            story.append("    but the answer was ").append(got).append('\n');
        }
    }

    /** Mostly a number from least to most; at times just beyond, or far beyond. */
    private int number(int least, int most) {
        int kind = random.nextInt(40);
        if (kind == 0) {
            return least - 1;
        }
        if (kind == 1) {
            return most + 1;
        }
        if (kind == 2) {
            int[] far = {Integer.MIN_VALUE, Integer.MAX_VALUE, -2, -1, 0, 1000000, -1000};
            return far[random.nextInt(far.length)];
        }
        return most < least ? least : least + random.nextInt(most - least + 1);
    }

    private int anySlice() {
        return number(0, Math.max(0, slices - 1));
    }

    private int anyGuest() {
        return number(0, Math.max(0, guests - 1));
    }

    private void call(String name) {
        int a = anySlice();
        int b = anyGuest();
        int n = random.nextInt(3) == 0 ? number(1, 60) : number(1, 12);
        int what = number(0, 1);
        switch (name) {
            case "force": n = number(-1, 3); due("force " + n, cake.force(n), oracle.force(n)); break;
            case "slice": n = number(0, 2); due("slice " + a + " " + n, cake.slice(a, n), oracle.slice(a, n)); break;
            case "guest": n = number(0, 6); due("guest " + b + " " + n, cake.guest(b, n), oracle.guest(b, n)); break;
            case "turnOne": due("turnOne", cake.turnOne(), oracle.turnOne()); break;
            case "take": due("take " + b + " " + a, cake.take(b, a), oracle.take(b, a)); break;
            case "lay": due("lay " + a, cake.lay(a), oracle.lay(a)); break;
            case "swap": n = anySlice(); due("swap " + a + " " + n, cake.swap(a, n), oracle.swap(a, n)); break;
            case "stir": due("stir " + b, cake.stir(b), oracle.stir(b)); break;
            case "undo":
                for (int i = random.nextInt(12) == 0 ? 25 : 1; i > 0; i--) {
                    due("undo", cake.undo(), oracle.undo());
                }
                break;
            default: ask(name, a, b, n, what);
        }
    }

    private void ask(String name, int a, int b, int n, int what) {
        switch (name) {
            case "ahead": {
                int k = number(0, 2);
                int number = k == 0 ? a : k == 1 ? b : number(0, 9);
                n = random.nextBoolean() ? n : number(0, 100);
                due("ahead " + number + " " + n + " " + k, cake.ahead(number, n, k), oracle.ahead(number, n, k));
                break;
            }
            case "left": due("left", cake.left(), oracle.left()); break;
            case "envy": due("envy", cake.envy(), oracle.envy()); break;
            case "needs": due("needs " + b + " " + what, cake.needs(b, what), oracle.needs(b, what)); break;
            case "twos": what = number(0, 2); due("twos " + what, cake.twos(what), oracle.twos(what)); break;
            case "round": what = number(-1, slices - 1); due("round " + what, cake.round(what), oracle.round(what)); break;
            case "fair": what = number(-1, slices - 1); due("fair " + what, cake.fair(what), oracle.fair(what)); break;
            case "begin": due("begin " + b + " " + n + " " + what, cake.begin(b, n, what), oracle.begin(b, n, what)); break;
            case "leave": due("leave " + n + " " + what, cake.leave(n, what), oracle.leave(n, what)); break;
            case "kept": due("kept " + n + " " + what, cake.kept(n, what), oracle.kept(n, what)); break;
            case "game": {
                int other = anyGuest();
                n = number(1, 4);
                due("game " + b + " " + other + " " + n + " " + what, cake.game(b, other, n, what), oracle.game(b, other, n, what));
                break;
            }
            default: askMore(name, a, b, n, what);
        }
    }

    private void askMore(String name, int a, int b, int n, int what) {
        switch (name) {
            case "pence": n = number(0, 9999); due("pence " + n + " " + b, cake.pence(n, b), oracle.pence(n, b)); break;
            case "note": noteSome(a, b, n); break;
            case "ruled": due("ruled " + what, cake.ruled(what), oracle.ruled(what)); break;
            case "look": n -= random.nextInt(2); due("look " + n + " " + what, cake.look(n, what), oracle.look(n, what)); break;
            case "seed": n = random.nextInt() >> random.nextInt(31); due("seed " + n, cake.seed(n), oracle.seed(n)); break;
            case "flames": {
                int m = number(1, 10);
                int p = number(0, 100);
                due("flames " + m + " " + n + " " + p + " " + what, cake.flames(m, n, p, what), oracle.flames(m, n, p, what));
                break;
            }
            case "count": what = number(0, 13); due("count " + what, cake.count(what), oracle.count(what)); break;
            case "image": what = number(0, 3); due("image " + what, cake.image(what), oracle.image(what)); break;
            case "back": what = number(0, 3); due("back " + what, cake.back(what), oracle.back(what)); break;
            case "tellFeast": tell(random.nextInt(3) == 0 ? spoilt(feastText()) : feastText(), true); break;
            case "tellRule": tell(random.nextInt(3) == 0 ? spoilt(ruleText()) : ruleText(), false); break;
            default: tell(spoilt(random.nextBoolean() ? feastText() : ruleText()), random.nextBoolean()); break;
        }
    }

    /** At the begin often what will be so by the rule in force, so that some rules stay. */
    private void noteSome(int a, int b, int n) {
        int turn = random.nextInt(12) == 0 ? -1 : n;
        int whose = random.nextInt(4) == 0 ? -1 : b;
        if (oracle.count(6) == 0 && random.nextInt(3) != 0) {
            whose = Math.max(-1, oracle.ahead(a, turn + 1, 0));
        }
        due("note " + turn + " " + a + " " + whose, cake.note(turn, a, whose), oracle.note(turn, a, whose));
    }

    private void tell(String text, boolean asFeast) {
        if (random.nextInt(30) == 0) {
            int cut = number(0, 20);
            due("end " + cut, cake.end(cut), oracle.end(cut));
        } else {
            due("end 0", cake.end(0), oracle.end(0));
        }
        for (int from = 0; from < text.length(); from += 20) {
            int[] five = new int[5];
            for (int i = 0; i < 20; i++) {
                int sign = from + i < text.length() ? text.charAt(from + i) : 0;
                five[i / 4] = five[i / 4] << 8 | sign & 255;
            }
            due("feed of " + text.substring(from, Math.min(text.length(), from + 20)),
                cake.feed(five[0], five[1], five[2], five[3], five[4]), oracle.feed(five));
        }
        due("end " + text.length(), cake.end(text.length()), oracle.end(text.length()));
        if (asFeast) {
            due("feast of " + text, cake.feast(), oracle.feast());
        } else {
            due("rule of " + text, cake.rule(), oracle.rule());
        }
        slices = oracle.count(2);
        guests = oracle.count(3);
    }

    private String blank() {
        int kind = random.nextInt(20);
        return kind == 0 ? "  " : kind < 4 ? " " : "";
    }

    private String feastText() {
        StringBuilder b = new StringBuilder(blank() + "cake " + random.nextInt(5) + " " + random.nextInt(10));
        int manyGuests = random.nextInt(12) == 0 ? 6 : random.nextInt(10) == 0 ? random.nextInt(2) : 1 + random.nextInt(5);
        int manySlices = random.nextInt(12) == 0 ? 11 : random.nextInt(10) == 0 ? random.nextInt(3) : 2 + random.nextInt(9);
        int most = 1 + random.nextInt(9);
        while (manyGuests + manySlices > 0) {
            boolean isGuest = random.nextInt(manyGuests + manySlices) < manyGuests;
            b.append(blank()).append(';').append(blank());
            if (isGuest) {
                b.append("guest").append(random.nextBoolean() ? " " : "").append(random.nextInt(random.nextBoolean() ? 100 : 20));
                manyGuests--;
            } else {
                b.append("slice ").append(random.nextInt(4)).append(' ').append(1 + random.nextInt(most));
                manySlices--;
            }
        }
        int told = b.toString().split("guest").length - 1;
        for (int i = random.nextInt(12); i > 0 && told > 0; i--) {
            b.append(";likes ").append(random.nextInt(told)).append(' ').append(random.nextInt(4)).append(' ')
                .append(random.nextInt(10));
        }
        return b.toString();
    }

    private String ruleText() {
        StringBuilder b = new StringBuilder();
        int most = random.nextInt(15) == 0 ? 13 : 1 + random.nextInt(4);
        for (int i = 0; i < most; i++) {
            b.append(i > 0 ? blank() + ";" + blank() : "").append("take ").append(most == 13 ? "1" : sum(3));
            if (random.nextInt(3) != 0 && most < 13) {
                b.append(" if ").append(test(random.nextInt(25) == 0 ? 13 : random.nextInt(4)));
            }
        }
        return b.length() > 400 ? "take worth" : b.toString();
    }

    private String test(int depth) {
        int kind = random.nextInt(depth > 5 ? 2 : 6);
        if (depth > 0 && kind == 0) {
            return "[" + blank() + test(depth - 1) + "]" + blank();
        }
        if (depth > 0 && kind == 1) {
            return "not " + (random.nextInt(3) == 0 ? fact() : "[" + test(depth - 1) + "]");
        }
        if (depth > 0 && kind == 2) {
            return test(depth - 1) + " and " + test(depth - 1);
        }
        if (depth > 0 && kind == 3) {
            return test(depth - 1) + " or " + test(depth - 1);
        }
        return depth > 5 ? "not " + test(depth - 1) : fact();
    }

    private String fact() {
        String[] signs = {"<", "<=", "=", ">=", ">"};
        return sum(2) + blank() + signs[random.nextInt(5)] + blank() + sum(2);
    }

    private String sum(int most) {
        StringBuilder b = new StringBuilder(value());
        int many = random.nextInt(40) == 0 ? 40 : random.nextInt(most + 1);
        for (int i = 0; i < many; i++) {
            b.append(blank()).append("+-*/%++**".charAt(random.nextInt(9))).append(blank()).append(many > 9 ? "7" : value());
        }
        return b.toString();
    }

    private String value() {
        if (random.nextInt(3) != 0) {
            return WORDS[random.nextInt(WORDS.length)];
        }
        int[] below = {3, 10, 100, 100000};
        return "" + random.nextInt(below[random.nextInt(4)]);
    }

    /** The text with a few bytes or pieces changed. */
    private String spoilt(String text) {
        StringBuilder b = new StringBuilder(text);
        String[] pieces = {"cake", "slice", "guest", "likes", "take", "if", "not", "and", "or", "[", "]", "<",
            "=", ">", "<=", "+", "-", "*", "/", "%", ";", " ", "0", "9", "123456", "100", "x", "\0", "A", "\u00ff"};
        for (int i = random.nextInt(3); i >= 0; i--) {
            int at = random.nextInt(b.length() + 1);
            int kind = random.nextInt(4);
            if (kind == 0 && at < b.length()) {
                b.deleteCharAt(at);
            } else if (kind == 1 && at < b.length()) {
                b.setCharAt(at, pieces[random.nextInt(pieces.length)].charAt(0));
            } else if (kind == 2 && random.nextInt(3) == 0) {
                b.setLength(at);
            } else {
                b.insert(at, pieces[random.nextInt(pieces.length)]);
            }
        }
        if (b.length() > 400) {
            b.setLength(400);
        }
        return b.toString();
    }
}
