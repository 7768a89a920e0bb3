import java.util.function.Consumer;
import java.util.function.ToIntFunction;

/** What the tests of the promises share: answers compared, texts told, and that nothing has happened. */
abstract class Checks {
    /**
     * Worth of slices 0 to 4: to guest 0: 8 3 4 0 1; to guest 1: 4 9 2 6 3. Without a rule guest 1
     * takes slice 1 at turn 0, guest 0 slice 0 at turn 1 and slice 2 at turn 3; that makes up.
     */
    static final String FEAST = "cake 1 5;slice 0 4;slice 1 3;slice 0 2;slice 2 6;slice 1 1;"
        + "guest 10;guest 6;likes 0 0 2;likes 0 1 1;likes 0 2 0;likes 1 0 1;likes 1 1 3;likes 1 2 1";

    private static int wrong = 0;
    private static int asked = 0;

    static void due(String what, int got, int want) {
        asked++;
        if (got != want) {
            wrong++;
            System.out.println(what + ": answered " + got + ", due is " + want);
        }
    }

    private static void alike(String what, String got, String want) {
        asked++;
        if (!got.equals(want)) {
            wrong++;
            System.out.println(what + ":\n    it is       " + got + "\n    it had been " + want);
        }
    }

    /** Says how it went, and ends with 1, if an answer was wrong. */
    static void tellAndEnd() {
        System.out.println(wrong == 0 ? asked + " answers are as due" : wrong + " answers are not as due");
        if (wrong != 0) {
            System.exit(1);
        }
    }

    /** Puts a text behind the tape; what is fed too much is cut off. */
    static RueCake type(RueCake cake, String text) {
        int before = cake.count(13);
        for (int from = 0; from < text.length(); from += 20) {
            int[] five = new int[5];
            for (int i = 0; i < 20; i++) {
                five[i / 4] = five[i / 4] << 8 | (from + i < text.length() ? text.charAt(from + i) & 255 : 0);
            }
            cake.feed(five[0], five[1], five[2], five[3], five[4]);
        }
        due("end of a text", cake.end(before + text.length()), before + text.length());
        return cake;
    }

    /** Tells a text as a feast, on an empty tape. */
    static int feastOf(RueCake cake, String text) {
        cake.end(0);
        return type(cake, text).feast();
    }

    static int ruleOf(RueCake cake, String text) {
        cake.end(0);
        return type(cake, text).rule();
    }

    static RueCake feasting(String text) {
        RueCake cake = new RueCake();
        int slices = feastOf(cake, text);
        due("feast " + text + " stands", slices < 0 ? slices : 0, 0);
        return cake;
    }

    static RueCake ruling(String feast, String... rules) {
        RueCake cake = feasting(feast);
        for (int i = 0; i < rules.length; i++) {
            due("rule " + rules[i], ruleOf(cake, rules[i]), i);
        }
        return cake;
    }

    /** A feast with one rule, which is in force. */
    static RueCake forced(String feast, String rule) {
        RueCake cake = ruling(feast, rule);
        due("none was in force", cake.force(0), -1);
        return cake;
    }

    /** The answer for a fault. */
    static int fault(int place, int why) {
        return -2 - (1 + 8 * place + why);
    }

    static void feastFault(String text, int place, int why) {
        due("fault of feast " + text, feastOf(new RueCake(), text), fault(place, why));
    }

    static void ruleFault(String text, int place, int why) {
        due("fault of rule " + text, ruleOf(new RueCake(), text), fault(place, why));
    }

    /** Which slice of five guest 1 takes by a rule, at the first turn. */
    static void takesBy(String rule, int slice) {
        due("taken by " + rule, forced(FEAST, rule).turnOne(), slice);
    }

    static String times(String text, int n) {
        return text.repeat(n);
    }

    /** The slices' guests as a number, slice 0 the highest digit; free is 9. */
    static int owners(RueCake cake) {
        int all = 0;
        for (int slice = 0; slice < cake.count(2); slice++) {
            int who = cake.slice(slice, 2);
            all = all * 10 + (who == RueCake.NONE ? 9 : who);
        }
        return all;
    }

    /**
     * All there can be: a feast, three rules and one in force, x, two notes, eight acts, images 0 and 2,
     * and twenty bytes of a tape. Guest 1 has slices 0 and 1, the others are free; it is turn 1.
     */
    static void fullStory(RueCake cake) {
        feastOf(cake, FEAST);
        ruleOf(cake, "take 10-size");
        ruleOf(cake, "take worth");
        ruleOf(cake, "take slice if mine<1");
        cake.force(1);
        cake.seed(77);
        cake.note(0, 1, 1);
        cake.image(0);
        cake.turnOne();
        cake.take(0, 0);
        cake.stir(0);
        cake.swap(0, 1);
        cake.image(2);
        cake.note(3, 4, -1);
        cake.swap(0, 1);
        cake.swap(1, 0);
        cake.lay(1);
        cake.take(1, 1);
        type(cake, "cake 2 3;slice 1 1;s");
    }

    /** That a call answers this, and that all is then as if it had not been made. */
    static void refused(String what, Consumer<RueCake> story, ToIntFunction<RueCake> call, int answer) {
        sameAs(what, story, call, answer, cake -> { });
    }

    /** That a call answers this, and that all is then as behind another call in its place. */
    static void sameAs(String what, Consumer<RueCake> story, ToIntFunction<RueCake> call, int answer,
            Consumer<RueCake> other) {
        RueCake one = new RueCake();
        RueCake twin = new RueCake();
        story.accept(one);
        story.accept(twin);
        due(what, call.applyAsInt(one), answer);
        other.accept(twin);
        alike(what + ", all behind it", all(one), all(twin));
    }

    /** All that can be seen of an object, what can be undone and gone back to as well; it is used up by that. */
    private static String all(RueCake cake) {
        StringBuilder told = new StringBuilder(state(cake));
        for (int slice = 0; slice < cake.count(2); slice++) {
            told.append(' ').append(cake.slice(slice, 0)).append(cake.slice(slice, 1));
        }
        for (int guest = 0; guest < cake.count(3); guest++) {
            for (int what = 3; what < 7; what++) {
                told.append(cake.guest(guest, what));
            }
        }
        told.append(" undone:");
        for (int i = 0; i < 21; i++) {
            told.append(' ').append(cake.undo());
        }
        told.append(state(cake));
        for (int rule = 0; rule < cake.count(4); rule++) {
            cake.force(rule);
            told.append(" by rule ").append(cake.ahead(0, 2, 0)).append(cake.ahead(0, 3, 2));
        }
        for (int k = 0; k < 4; k++) {
            told.append(" image ").append(cake.back(k)).append(state(cake));
        }
        // whatever the tape is, it is neither a feast nor a rule then, and the fault tells how far it is one
        told.append(" tape ").append(cake.feast()).append(' ').append(cake.count(2)).append(cake.count(0));
        return told.toString();
    }

    private static String state(RueCake cake) {
        StringBuilder told = new StringBuilder(" counts");
        for (int what = 0; what < 14; what++) {
            told.append(' ').append(cake.count(what));
        }
        told.append(" has ").append(owners(cake)).append(" rues");
        for (int guest = 0; guest < cake.count(3); guest++) {
            told.append(' ').append(cake.guest(guest, 0));
        }
        told.append(" ruled ").append(cake.ruled(0)).append(cake.ruled(1)).append(" drawn ")
            .append(cake.flames(2, 4, 50, 1));
        return told.toString();
    }
}
