import java.util.List;
import java.util.function.Consumer;
import java.util.function.ToIntFunction;

/** The bounds of what is told, of turns, acts and images, and what refused ones leave: a test for each sentence. */
public final class ActEdgeTest extends Checks {
    private static final int MIN = Integer.MIN_VALUE;
    private static final int MAX = Integer.MAX_VALUE;

    public static void main(String[] args) {
        withoutAFeast();
        ofASlice();
        ofAGuest();
        whoseTurn();
        whoTakesNothing();
        greatestAboveNone();
        firstClause();
        worthMost();
        turnsOfNobody();
        turnsRefused();
        turnsByHand();
        takes();
        lays();
        swaps();
        stirs();
        lastTwenty();
        eachActUndone();
        nothingToUndo();
        seeds();
        counts();
        imagesMade();
        imagesGoneBackTo();
        imagesOfNotes();
        imagesOfAFeast();
        tellAndEnd();
    }

    /** That a call is refused in the full story, and by an object that was told nothing. */
    private static void refusedEverywhere(String what, ToIntFunction<RueCake> call, int answer) {
        refused(what, Checks::fullStory, call, answer);
        refused(what + " without a feast", cake -> { }, call, answer);
    }

    /** "No FEAST, no RULES, none IN FORCE": what is refused without, and nothing happens */
    private static void withoutAFeast() {
        Consumer<RueCake> nothing = cake -> { };
        Consumer<RueCake> rulesAlone = cake -> {
            ruleOf(cake, "take 1");
            cake.force(0);
            cake.seed(9);
        };
        for (Consumer<RueCake> story : List.of(nothing, rulesAlone)) {
            refused("slice", story, cake -> cake.slice(0, 0), -2);
            refused("guest", story, cake -> cake.guest(0, 0), -1);
            refused("turnOne", story, RueCake::turnOne, -2);
            refused("take", story, cake -> cake.take(0, 0), -1);
            refused("lay", story, cake -> cake.lay(0), -1);
            refused("swap", story, cake -> cake.swap(0, 1), -1);
            refused("swap of like ones", story, cake -> cake.swap(0, 0), -1);
            refused("stir", story, cake -> cake.stir(0), -1);
            refused("undo", story, RueCake::undo, -1);
            refused("ahead of a slice", story, cake -> cake.ahead(0, 0, 0), -2);
            refused("ahead of a guest", story, cake -> cake.ahead(0, 0, 1), -2);
            refused("ahead, free", story, cake -> cake.ahead(0, 0, 2), -2);
            refused("left", story, RueCake::left, -1);
            refused("envy", story, RueCake::envy, -1);
            refused("needs", story, cake -> cake.needs(0, 0), -1);
            for (int what = 0; what < 3; what++) {
                int asked = what;
                refused("twos", story, cake -> cake.twos(asked), -1);
            }
            for (int what = -1; what < 10; what++) {
                int asked = what;
                refused("round", story, cake -> cake.round(asked), -3);
                refused("fair", story, cake -> cake.fair(asked), -3);
            }
            for (int what = 0; what < 2; what++) {
                int asked = what;
                refused("begin", story, cake -> cake.begin(0, 1, asked), -1);
                refused("leave", story, cake -> cake.leave(1, asked), -2);
                refused("kept", story, cake -> cake.kept(1, asked), -1);
                refused("game", story, cake -> cake.game(0, 1, 1, asked), -1000);
                refused("ruled", story, cake -> cake.ruled(asked), -3);
                refused("look", story, cake -> cake.look(0, asked), -1);
                refused("flames", story, cake -> cake.flames(1, 1, 50, asked), -1);
            }
            refused("pence", story, cake -> cake.pence(0, 0), -1);
            refused("note", story, cake -> cake.note(0, 0, 0), -2);
            refused("note of nobody", story, cake -> cake.note(0, 0, -1), -2);
        }
    }

    /** "Of a SLICE what 0: KIND, 1: SIZE, 2: whose (NONE: FREE). -2 without these." */
    private static void ofASlice() {
        RueCake cake = new RueCake();
        fullStory(cake);
        for (int slice = 0; slice < 5; slice++) {
            due("whose", cake.slice(slice, 2), slice < 2 ? 1 : -1);
        }
        int[][] kindsAndSizes = {{0, 4}, {1, 3}, {0, 2}, {2, 6}, {1, 1}};
        for (int slice = 0; slice < 5; slice++) {
            due("KIND", cake.slice(slice, 0), kindsAndSizes[slice][0]);
            due("SIZE", cake.slice(slice, 1), kindsAndSizes[slice][1]);
        }
        for (int slice : new int[] {-1, -2, 5, 6, 9, 10, MIN, MAX}) {
            for (int what = 0; what < 3; what++) {
                due("slice " + slice + " of five", cake.slice(slice, what), -2);
            }
        }
        for (int what : new int[] {-1, -2, 3, 4, MIN, MAX}) {
            due("what " + what + " of a slice", cake.slice(0, what), -2);
        }
        cake = feasting("cake 0 0" + times(";slice 3 9", 10));
        due("the tenth", cake.slice(9, 0) * 10 + cake.slice(9, 1), 39);
        due("no eleventh", cake.slice(10, 0), -2);
    }

    /** "Of a GUEST what 0: RUE, 1: .. WORTH to them, 2: their SLICES, as bits, 3 to 6: .. NONE without these." */
    private static void ofAGuest() {
        RueCake cake = new RueCake();
        fullStory(cake);
        int[][] told = {{15, 0, 0, 2, 1, 0, 1}, {6, 13, 3, 1, 3, 1, 1}};
        for (int guest = 0; guest < 2; guest++) {
            for (int what = 0; what < 7; what++) {
                due("guest " + guest + ", what " + what, cake.guest(guest, what), told[guest][what]);
            }
        }
        for (int guest : new int[] {-1, -2, 2, 3, 4, 5, MIN, MAX}) {
            for (int what = 0; what < 7; what++) {
                due("guest " + guest + " of two", cake.guest(guest, what), -1);
            }
        }
        for (int what : new int[] {-1, -2, 7, 8, MIN, MAX}) {
            due("what " + what + " of a guest", cake.guest(0, what), -1);
        }
        cake = feasting("cake 0 0" + times(";slice 3 9", 10) + times(";guest 99", 5) + ";likes 4 3 9");
        for (int slice = 0; slice < 10; slice++) {
            cake.take(4, slice);
        }
        due("all ten", cake.guest(4, 2), 1023);
        due("worth the most there can be", cake.guest(4, 1), 810);
        due("of the others none", cake.guest(3, 1) + cake.guest(3, 2), 0);
    }

    /** "A TURN is that of the GUEST of number FIRST and TURN, together, of how many GUESTS the rest." */
    private static void whoseTurn() {
        for (int first = 0; first < 5; first++) {
            for (int guests = 1; guests <= 5; guests++) {
                RueCake cake = feasting("cake " + first + " 0" + times(";slice 0 1", 10) + times(";guest 99", guests));
                for (int turn = 0; turn < 10; turn++) {
                    int who = (first + turn) % guests;
                    due("whose turn", cake.count(7), who);
                    due("slice by slice", cake.turnOne(), turn);
                    due("taken by that one", cake.slice(turn, 2), who);
                }
                due("nothing is left", cake.turnOne(), -1);
                due("TURN all the same", cake.count(6), 11);
            }
        }
        due("without guests nobody's", feasting("cake 4 0;slice 0 1").count(7), -1);
    }

    /** "If what they have is WORTH as much as they RUE, or more, they take nothing" */
    private static void whoTakesNothing() {
        for (int rue = 0; rue <= 9; rue++) {
            String feast = "cake 0 0;slice 0 5;slice 0 1;guest " + rue;
            RueCake cake = feasting(feast);
            cake.take(0, 0);
            due("has 5, rues " + rue, cake.turnOne(), rue > 5 ? 1 : -1);
            cake = forced(feast, "take 100");
            cake.take(0, 0);
            due("has 5, rues " + rue + ", with a rule", cake.turnOne(), rue > 5 ? 1 : -1);
            due("a turn has gone by", cake.count(6), 1);
        }
        RueCake cake = feasting("cake 0 0;slice 0 5;guest 0");
        due("who has nothing and rues nothing", cake.turnOne(), -1);
        cake = feasting("cake 0 1;slice 0 5;guest 0");
        cake.stir(0);
        due("who rues 1 then", cake.turnOne(), 0);
    }

    /** "the FREE SLICE for which the SUM .. is greatest, if it is above 0, of several the least (nothing, if none is)" */
    private static void greatestAboveNone() {
        takesBy("take slice-4", -1);
        takesBy("take slice-3", 4);
        takesBy("take 0", -1);
        takesBy("take 1", 0);
        takesBy("take 0-1", -1);
        takesBy("take 1-slice", 0);
        takesBy("take slice%2", 1);
        takesBy("take slice/2", 4);
        takesBy("take slice/3", 3);
        takesBy("take 1 if slice=4", 4);
        RueCake cake = forced(FEAST, "take 9-slice");
        cake.take(0, 0);
        cake.take(0, 1);
        due("of those that are free", cake.turnOne(), 2);
        cake.take(0, 3);
        cake.take(0, 4);
        due("none is free", cake.turnOne(), -1);
        cake = forced("cake 0 0;guest 9", "take 1");
        due("no slices at all", cake.turnOne(), -1);
        due("TURN 1", cake.count(6), 1);
    }

    /** "the RULE IN FORCE's first CLAUSE without a TEST, or whose TEST holds (0 without)" */
    private static void firstClause() {
        takesBy("take 0;take 9", -1);
        takesBy("take 0-9;take 9", -1);
        takesBy("take 1;take 9 if slice=3", 0);
        takesBy("take 9 if slice=3;take 1", 3);
        takesBy("take 0 if 1=1;take 9", -1);
        takesBy("take 9 if 1=0", -1);
        takesBy("take 9 if 1=0;take 8 if 1=0", -1);
        takesBy("take 9 if 1=0;take 8 if 1=0;take slice", 4);
        takesBy("take 3 if slice=0;take 5 if slice=0;take 4 if slice=1", 1);
        takesBy("take 1 if 2=2;take slice if 1=1", 0);
    }

    /** "without a RULE the one that is WORTH most, of several the least, if that is above 0" */
    private static void worthMost() {
        String likes = ";likes 0 0 0;likes 0 1 3;likes 0 2 2";
        due("worth most", feasting("cake 0 0;slice 0 9;slice 1 2;slice 2 4;slice 3 7;guest 9" + likes).turnOne(), 2);
        due("of several the least", feasting("cake 0 0;slice 0 9;slice 1 2;slice 2 3;slice 3 6;guest 9" + likes).turnOne(), 1);
        due("none is above 0", feasting("cake 0 0;slice 0 9;slice 0 8;guest 9" + likes).turnOne(), -1);
        RueCake cake = feasting("cake 0 0;slice 0 9;slice 3 1;guest 9" + likes);
        due("one alone is", cake.turnOne(), 1);
        due("no other", cake.turnOne(), -1);
        cake = forced("cake 0 0;slice 0 9;slice 3 1;guest 9" + likes, "take size");
        due("a rule may take what is worth nothing", cake.turnOne(), 0);
        cake.force(-1);
        due("none in force any more", cake.turnOne(), 1);
    }

    /** "without GUESTS nothing else happens" */
    private static void turnsOfNobody() {
        RueCake cake = forced("cake 3 9;slice 0 5;slice 0 5", "take 1");
        for (int turn = 1; turn <= 25; turn++) {
            due("nothing is taken", cake.turnOne(), -1);
            due("TURN", cake.count(6), turn);
            due("ACTS", cake.count(11), Math.min(20, turn));
        }
        due("all free", cake.count(8), 3);
        due("nobody's", cake.count(7), -1);
        due("undone", cake.undo(), 19);
        due("TURN again", cake.count(6), 24);
        due("asked they go by too", cake.ahead(0, 100, 0), -1);
    }

    /** "-2, and nothing happens, without a FEAST" */
    private static void turnsRefused() {
        refused("no feast", cake -> { }, RueCake::turnOne, -2);
        refused("a faulty one", cake -> feastOf(cake, "cake 0 0;slice"), RueCake::turnOne, -2);
        refused("gone back to none", cake -> {
            cake.image(1);
            feastOf(cake, FEAST);
            cake.turnOne();
            cake.back(1);
        }, RueCake::turnOne, -2);
        due("the least feast there is", feasting("cake 0 0").turnOne(), -1);
    }

    /**
     * "TURN is 1 more (999 at most by hand; TURNS that are asked go on beyond"; "-2, and nothing happens, .. at TURN 999":
     * so many can't be within 512 calls; the class is held to it all the same.
     */
    private static void turnsByHand() {
        RueCake cake = forced("cake 0 1;slice 0 5;guest 1", "take turn-998");
        for (int turn = 0; turn < 998; turn++) {
            cake.turnOne();
        }
        due("the last by hand", cake.turnOne(), -1);
        due("TURN 999", cake.count(6), 999);
        due("no more", cake.turnOne(), -2);
        due("TURN 999 still", cake.count(6), 999);
        due("no act", cake.count(11), 20);
        due("nothing taken", cake.slice(0, 2), -1);
        due("asked it goes on", cake.ahead(0, 1, 0), 0);
        due("far beyond", cake.ahead(0, 100, 2), 0);
        due("left at 1000", cake.left(), 1000);
        due("begin", cake.begin(0, 1, 1), 5);
        due("leave", cake.leave(1, 1), 1);
        due("flames", cake.flames(1, 1, 0, 0), 0);
        due("other acts are done", cake.stir(0), 2);
        due("undone", cake.undo(), 19);
        due("the turn undone", cake.undo(), 18);
        due("TURN 998", cake.count(6), 998);
        due("once more by hand", cake.turnOne(), -1);
        due("at 999", cake.turnOne(), -2);
    }

    /** "TAKE: what all theirs are WORTH to them then; NONE, and nothing happens, without these." */
    private static void takes() {
        for (int guest : new int[] {-1, -2, 2, 3, 4, 5, MIN, MAX}) {
            refusedEverywhere("guest " + guest + " takes", cake -> cake.take(guest, 2), -1);
        }
        for (int slice : new int[] {-1, -2, 5, 6, 9, 10, MIN, MAX}) {
            refusedEverywhere("slice " + slice + " is taken", cake -> cake.take(0, slice), -1);
        }
        refused("what another one has", Checks::fullStory, cake -> cake.take(0, 0), -1);
        refused("what they have", Checks::fullStory, cake -> cake.take(1, 0), -1);
        RueCake cake = new RueCake();
        fullStory(cake);
        due("worth 4", cake.take(0, 2), 4);
        due("what is worth nothing", cake.take(0, 3), 4);
        due("beyond what they rue", cake.take(1, 4), 16);
        due("none is free", cake.count(8), 0);
        due("no turn by that", cake.count(6), 1);
        due("three acts more", cake.count(11), 11);
    }

    /** "LAY: who had it; NONE, and nothing happens, without these." */
    private static void lays() {
        for (int slice : new int[] {-1, -2, 2, 3, 4, 5, 6, 9, 10, MIN, MAX}) {
            refusedEverywhere("slice " + slice + " is laid", cake -> cake.lay(slice), -1);
        }
        RueCake cake = new RueCake();
        fullStory(cake);
        due("laid", cake.lay(0), 1);
        due("free", cake.slice(0, 2), -1);
        due("not twice", cake.lay(0), -1);
        due("one act more", cake.count(11), 9);
        due("of guest 0, too", cake.take(0, 0) * 10 + cake.lay(0), 80);
        due("the last of all", cake.lay(1), 1);
        due("all are free", cake.count(8), 31);
    }

    /** Guest 0 has slices 0 and 2, guest 1 slice 4; slices 1 and 3 are free. */
    private static void shareOut(RueCake cake) {
        feastOf(cake, FEAST);
        cake.take(0, 0);
        cake.take(0, 2);
        cake.take(1, 4);
    }

    /** "SWAP (two SLICES of two GUESTS: each has the other's)": "1; NONE, and nothing happens, without these" */
    private static void swaps() {
        int[][] wrong = {{0, 2}, {2, 0}, {0, 0}, {4, 4}, {0, 1}, {1, 0}, {1, 3}, {1, 1}, {4, 3}, {3, 4}, {0, 5}, {5, 0}, {5, 5},
            {5, 6}, {-1, 0}, {0, -1}, {-1, -1}, {4, 10}, {MAX, 0}, {0, MAX}, {MIN, 4}, {4, MIN}, {MIN, MAX}};
        for (int[] two : wrong) {
            refused("swap " + two[0] + " " + two[1], ActEdgeTest::shareOut, cake -> cake.swap(two[0], two[1]), -1);
        }
        RueCake cake = new RueCake();
        shareOut(cake);
        due("first and last", cake.swap(0, 4), 1);
        due("changed", owners(cake), 19090);
        due("last and first", cake.swap(4, 0), 1);
        due("changed again", owners(cake), 9091);
        due("others of them", cake.swap(2, 4), 1);
        due("each has the other's", owners(cake), 9190);
        due("acts", cake.count(11), 6);
    }

    /** "STIR (a GUEST RUES as much more as STIR is, if that is above 0; 99 at most, at which they may be)" */
    private static void stirs() {
        for (int guest : new int[] {-1, -2, 2, 3, 4, 5, MIN, MAX}) {
            refusedEverywhere("guest " + guest + " is stirred", cake -> cake.stir(guest), -1);
        }
        for (int guest = -1; guest < 4; guest++) {
            int whom = guest;
            refused("STIR 0", cake -> feastOf(cake, "cake 0 0;guest 0;guest 50;guest 99"), cake -> cake.stir(whom), -1);
        }
        int[][] stirAndRue = {{1, 0}, {9, 0}, {1, 97}, {1, 98}, {1, 99}, {9, 89}, {9, 90}, {9, 91}, {9, 98}, {9, 99}};
        for (int[] two : stirAndRue) {
            RueCake cake = feasting("cake 0 " + two[0] + ";guest " + two[1] + ";guest 5");
            due("rue then", cake.stir(0), Math.min(99, two[0] + two[1]));
            due("it is so", cake.guest(0, 0), Math.min(99, two[0] + two[1]));
            due("an act, at 99 too", cake.count(11), 1);
            due("the other's stays", cake.guest(1, 0), 5);
            due("undone", cake.undo(), 0);
            due("rue as it was", cake.guest(0, 0), two[1]);
        }
    }

    /** "The last 20 can be UNDONE, the last first." */
    private static void lastTwenty() {
        for (int acts : new int[] {1, 2, 19, 20, 21, 22, 39, 40, 41, 45}) {
            RueCake cake = feasting("cake 0 1;guest 0");
            for (int i = 1; i <= acts; i++) {
                due("stirred", cake.stir(0), i);
                due("how many", cake.count(11), Math.min(20, i));
            }
            int most = Math.min(20, acts);
            for (int i = most - 1; i >= 0; i--) {
                due("how many more", cake.undo(), i);
                due("the last first", cake.guest(0, 0), acts - most + i);
            }
            due("no more", cake.undo(), -1);
            due("the oldest stay", cake.guest(0, 0), acts - most);
            due("none can", cake.count(11), 0);
        }
        RueCake cake = feasting("cake 0 1;guest 0");
        for (int i = 0; i < 20; i++) {
            cake.stir(0);
        }
        for (int i = 0; i < 5; i++) {
            cake.undo();
        }
        for (int i = 0; i < 7; i++) {
            cake.turnOne();
        }
        due("fifteen and seven are twenty again", cake.count(11), 20);
        for (int i = 19; i >= 0; i--) {
            due("one after the other", cake.undo(), i);
        }
        due("two of the first stay", cake.guest(0, 0), 2);
        due("TURN 0", cake.count(6), 0);
        due("none", cake.undo(), -1);
    }

    /** That an act, and then undo, leaves all as it was. */
    private static void undone(String what, ToIntFunction<RueCake> act, int answer) {
        sameAs(what + ", undone", Checks::fullStory, cake -> {
            due(what, act.applyAsInt(cake), answer);
            due(what + " is one more", cake.count(11), 9);
            return cake.undo();
        }, 8, cake -> { });
    }

    /** "The last ACT is UNDONE: how many more can be" */
    private static void eachActUndone() {
        undone("a turn that takes", RueCake::turnOne, 2);
        undone("a turn that takes nothing", cake -> {
            cake.force(2);
            int taken = cake.turnOne();
            cake.undo();
            cake.force(0);
            int other = cake.turnOne();
            cake.undo();
            cake.force(1);
            due("taken by rules 2 and 0", taken * 10 + other, 44);
            return cake.turnOne();
        }, 2);
        undone("a take", cake -> cake.take(0, 3), 0);
        undone("another one's take", cake -> cake.take(1, 4), 16);
        undone("a lay", cake -> cake.lay(1), 1);
        undone("a stir", cake -> cake.stir(1), 11);
        sameAs("a swap, undone", ActEdgeTest::shareOut, cake -> cake.swap(4, 2) + cake.undo(), 4, cake -> { });
        sameAs("a turn of no slice, undone", cake -> feastOf(cake, "cake 0 3;slice 0 5;guest 0"),
            cake -> cake.turnOne() + cake.undo(), -1, cake -> { });
        sameAs("a stir at 99, undone", cake -> feastOf(cake, "cake 0 9;guest 95"), cake -> {
            due("to 99", cake.stir(0), 99);
            due("99 still", cake.stir(0), 99);
            due("one can be", cake.undo(), 1);
            return cake.undo();
        }, 0, cake -> { });
        RueCake cake = new RueCake();
        shareOut(cake);
        cake.turnOne();
        cake.lay(4);
        cake.seed(7);
        cake.note(1, 1, 1);
        cake.undo();
        due("what is no act stays", cake.count(12) * 10 + cake.count(10), 71);
    }

    /** "NONE, and nothing happens: none can" */
    private static void nothingToUndo() {
        refused("no feast", cake -> { }, RueCake::undo, -1);
        refused("a new one", cake -> feastOf(cake, FEAST), RueCake::undo, -1);
        refused("another feast", cake -> {
            fullStory(cake);
            feastOf(cake, FEAST);
        }, RueCake::undo, -1);
        refused("gone back", cake -> {
            fullStory(cake);
            cake.back(0);
        }, RueCake::undo, -1);
        refused("all undone", cake -> {
            feastOf(cake, FEAST);
            cake.turnOne();
            cake.undo();
        }, RueCake::undo, -1);
        refused("no acts", cake -> {
            feastOf(cake, FEAST);
            ruleOf(cake, "take 1");
            cake.force(0);
            cake.seed(5);
            cake.note(1, 1, 1);
            cake.image(0);
            cake.lay(0);
            cake.left();
        }, RueCake::undo, -1);
    }

    /** "x becomes a number: what it was; NONE, and nothing happens, below 0"; "(0 to 2147483647; 0 at first)" */
    private static void seeds() {
        RueCake cake = new RueCake();
        due("0 at first", cake.count(12), 0);
        due("it was 0", cake.seed(0), 0);
        due("the greatest", cake.seed(MAX), 0);
        due("it is", cake.count(12), MAX);
        due("one", cake.seed(1), MAX);
        due("it was one", cake.seed(MAX - 1), 1);
        due("it is the one below the greatest", cake.seed(0), MAX - 1);
        for (int x : new int[] {-1, -2, MIN, MIN + 1}) {
            refusedEverywhere("seed " + x, it -> it.seed(x), -1);
        }
    }

    /** "What 0: FIRST, .. 13: bytes of the TAPE. NONE for others." */
    private static void counts() {
        RueCake cake = new RueCake();
        int[] none = {0, 0, 0, 0, 0, -1, 0, -1, 0, 0, 0, 0, 0, 0};
        for (int what = 0; what < none.length; what++) {
            due("count " + what + " of nothing", cake.count(what), none[what]);
        }
        fullStory(cake);
        int[] full = {1, 5, 5, 2, 3, 1, 1, 0, 28, 2, 2, 8, 77, 20};
        for (int what = 0; what < full.length; what++) {
            due("count " + what + " of all", cake.count(what), full[what]);
        }
        for (int what : new int[] {-1, -2, 14, 15, 100, MIN, MAX}) {
            due("count " + what, cake.count(what), -1);
        }
        cake = feasting("cake 0 0;slice 0 3;guest 0;guest 3;guest 4;guest 1;guest 99");
        due("who rues nothing has it", cake.count(9), 1);
        cake.take(1, 0);
        due("as much", cake.count(9), 3);
        cake.swap(0, 0);
        cake.lay(0);
        cake.take(2, 0);
        due("one too few", cake.count(9), 1);
        cake.lay(0);
        cake.take(3, 0);
        due("more", cake.count(9), 9);
        due("none free", cake.count(8), 0);
    }

    /** "An IMAGE is made: TURN; NONE without it."; "IMAGES 0 to 3" */
    private static void imagesMade() {
        for (int k : new int[] {-1, -2, 4, 5, MIN, MAX}) {
            refusedEverywhere("image " + k, cake -> cake.image(k), -1);
            refusedEverywhere("back " + k, cake -> cake.back(k), -1);
        }
        RueCake cake = feasting(FEAST);
        for (int k = 0; k < 4; k++) {
            due("TURN", cake.image(k), k);
            cake.turnOne();
        }
        due("no act by that", cake.count(11), 4);
        for (int k = 3; k >= 0; k--) {
            due("each its own", cake.back(k), k);
            due("TURN as it was", cake.count(6), k);
        }
        due("who had what, 0", cake.back(0) * 100000 + owners(cake), 99999);
        due("who had what, 1", cake.back(1) * 100000 + owners(cake), 191999);
        due("who had what, 3", cake.back(3) * 100000 + owners(cake), 301999);
        cake.turnOne();
        due("made anew", cake.image(0), 4);
        cake.turnOne();
        due("in place of the one there was", cake.back(0), 4);
        due("as it is then", owners(cake), 1099);
        due("without a feast", new RueCake().image(0), 0);
    }

    /** "All is as in an IMAGE: TURN; NONE, and nothing happens, if it was never made" */
    private static void imagesGoneBackTo() {
        refused("never made 1", Checks::fullStory, cake -> cake.back(1), -1);
        refused("never made 3", Checks::fullStory, cake -> cake.back(3), -1);
        for (int k = 0; k < 4; k++) {
            int image = k;
            refused("none made at all", cake -> feastOf(cake, FEAST), cake -> cake.back(image), -1);
            refused("without a feast", cake -> { }, cake -> cake.back(image), -1);
        }
        RueCake cake = new RueCake();
        fullStory(cake);
        ruleOf(cake, "take 3");
        cake.force(3);
        cake.seed(5);
        type(cake, "abc");
        due("image 0", cake.back(0), 0);
        int[] counts = {1, 5, 5, 2, 4, 1, 0, 1, 31, 0, 1, 0, 77, 3};
        for (int what = 0; what < counts.length; what++) {
            due("count " + what + " behind image 0", cake.count(what), counts[what]);
        }
        due("rue as it was", cake.guest(0, 0), 10);
        due("nothing can be undone", cake.undo(), -1);
        due("image 2", cake.back(2), 1);
        due("rue, stirred then", cake.guest(0, 0), 15);
        due("swapped then", owners(cake), 10999);
        due("the rules and the tape stay", cake.count(4) * 10 + cake.count(13), 43);
        feastOf(cake, "cake 0 0;slice 3 3;guest 7");
        due("another feast is gone", cake.back(2), 1);
        due("its slices too", cake.count(2), 5);
        due("likes are as they were", cake.guest(1, 4), 3);
        due("goes on from there", cake.turnOne(), 2);
        due("that can be undone", cake.undo(), 0);
        due("image 0 still stands", cake.back(0), 0);
    }

    /** "all but the TAPE and the RULES, as it is": each part of each note */
    private static void imagesOfNotes() {
        String feast = "cake 0 0;slice 0 1;slice 0 1;guest 9;guest 9";
        // by none slice 0 is guest 0's from turn 0 on, slice 1 guest 1's from turn 1 on
        int[][] notes = {{0, 0, 0}, {0, 1, -1}, {1, 1, 1}, {60, 0, 0}};
        int[][] others = {{0, 1, 0}, {1, 1, -1}, {0, 1, 1}, {60, 0, 1}};
        for (int i = 0; i < notes.length; i++) {
            RueCake cake = feasting(feast);
            cake.note(notes[i][0], notes[i][1], notes[i][2]);
            cake.image(1);
            due("it is so", cake.ruled(0), 1);
            cake.note(-1, 0, 0);
            cake.note(others[i][0], others[i][1], others[i][2]);
            cake.image(2);
            due("another one is not", cake.ruled(0), 0);
            cake.back(1);
            due("so again", cake.ruled(0) * 100 + cake.count(10), 101);
            cake.back(2);
            due("not so again", cake.ruled(0) * 100 + cake.count(10), 1);
        }
        RueCake cake = feasting(feast);
        for (int many = 1; many <= 10; many++) {
            cake.note(0, 0, 0);
        }
        cake.image(0);
        cake.note(-1, 0, 0);
        cake.image(3);
        cake.back(0);
        due("ten", cake.count(10), 10);
        due("no eleventh", cake.note(0, 0, 0), -2);
        for (int which = 0; which < 10; which++) {
            int[][] right = {{1, 1, 1}, {1, 1, 1}, {0, 1, -1}};
            int[][] other = {{0, 1, 1}, {1, 0, 1}, {0, 1, 1}};
            for (int part = 0; part < 3; part++) {
                cake.note(-1, 0, 0);
                tenNotes(cake, which, right[part]);
                cake.image(1);
                cake.note(-1, 0, 0);
                tenNotes(cake, which, other[part]);
                due("one of ten is not so", cake.ruled(0), 0);
                cake.back(1);
                due("so again, each of ten", cake.ruled(0), 1);
            }
        }
        cake.back(3);
        due("none", cake.count(10), 0);
        due("the first", cake.note(0, 0, 0), 1);
    }

    private static void tenNotes(RueCake cake, int which, int[] note) {
        for (int i = 0; i < 10; i++) {
            cake.note(i == which ? note[0] : 0, i == which ? note[1] : 0, i == which ? note[2] : 0);
        }
    }

    /** "gone back to, it is as it was": all that a feast tells, and none */
    private static void imagesOfAFeast() {
        RueCake cake = new RueCake();
        due("nothing", cake.image(3), 0);
        ruleOf(cake, "take size");
        feastOf(cake, "cake 3 7;slice 2 9;slice 1 4;guest 8;guest 50;likes 1 2 5");
        cake.force(0);
        cake.seed(12);
        cake.turnOne();
        cake.image(0);
        feastOf(cake, "cake 1 2;slice 3 1;guest 99;guest 1;guest 2;likes 1 2 9;likes 0 1 9");
        cake.force(-1);
        cake.seed(13);
        due("gone back", cake.back(0), 1);
        int[] counts = {3, 7, 2, 2, 1, 0, 1, 0, 2, 0, 0, 0, 12, 0};
        for (int what = 0; what < counts.length; what++) {
            due("count " + what, cake.count(what), counts[what]);
        }
        due("kinds and sizes", cake.slice(0, 0) * 1000 + cake.slice(0, 1) * 100 + cake.slice(1, 0) * 10 + cake.slice(1, 1), 2914);
        due("worth", cake.guest(1, 1), 45);
        due("likes", cake.guest(1, 5) * 100 + cake.guest(0, 4) * 10 + cake.guest(1, 3), 511);
        due("rues", cake.guest(0, 0) * 100 + cake.guest(1, 0), 850);
        due("no notes: the rule and none", cake.ruled(0), 2);
        due("nothing again", cake.back(3), 0);
        int[] none = {0, 0, 0, 0, 1, -1, 0, -1, 0, 0, 0, 0, 0, 0};
        for (int what = 0; what < none.length; what++) {
            due("count " + what + " of nothing", cake.count(what), none[what]);
        }
        due("no feast", cake.envy(), -1);
        due("and back", cake.back(0), 1);
        due("the feast", cake.envy(), 1);
    }
}
