import java.util.function.Consumer;
import java.util.function.ToIntFunction;

/** The bounds of what is asked and of notes, and what is answered beyond them: a test for each sentence. */
public final class AskEdgeTest extends Checks {
    private static final int MIN = Integer.MIN_VALUE;
    private static final int MAX = Integer.MAX_VALUE;
    private static final int[] NO_TURNS = {0, -1, -2, 61, 62, 100, MIN, MAX};
    private static final int[] NO_WHAT = {-1, -2, 2, 3, MIN, MAX};
    private static final int[] NO_GUESTS = {-1, -2, 2, 3, 4, 5, MIN, MAX};
    private static final int[] NO_SLICES = {-1, -2, 5, 6, 9, 10, MIN, MAX};

    public static void main(String[] args) {
        nothingChanges();
        fullTable();
        fullTableShared();
        aheadOfTheBounds();
        aheadRefused();
        leftOfAHundred();
        leftWithoutAny();
        envies();
        needsFewest();
        needsRefused();
        twosThatGain();
        twosRefused();
        roundCuts();
        roundRefused();
        fairShares();
        fairRefused();
        begins();
        leaves();
        keeps();
        games();
        gamesRefused();
        pences();
        penceRefused();
        notesTold();
        notesRefused();
        ruledByNotes();
        looks();
        looksRefused();
        flamesAtTheBounds();
        flamesDrawn();
        flamesRefused();
        tellAndEnd();
    }

    private static void unchanged(String what, ToIntFunction<RueCake> call) {
        RueCake cake = new RueCake();
        fullStory(cake);
        int answer = call.applyAsInt(cake);
        due(what + " answers the same again", call.applyAsInt(cake), answer);
        refused(what + " changes nothing", Checks::fullStory, call, answer);
    }

    /** "(By what is asked nothing changes ..)"; "(nothing stays; x as it was)" */
    private static void nothingChanges() {
        for (int what = 0; what < 3; what++) {
            int asked = what;
            unchanged("ahead", cake -> cake.ahead(1, 100, asked));
            unchanged("twos", cake -> cake.twos(asked));
        }
        unchanged("left", RueCake::left);
        unchanged("envy", RueCake::envy);
        for (int what = -1; what < 10; what++) {
            int asked = what;
            unchanged("round", cake -> cake.round(asked));
            unchanged("fair", cake -> cake.fair(asked));
        }
        for (int what = 0; what < 2; what++) {
            int asked = what;
            unchanged("needs", cake -> cake.needs(0, asked));
            unchanged("begin", cake -> cake.begin(0, 60, asked));
            unchanged("leave", cake -> cake.leave(60, asked));
            unchanged("kept", cake -> cake.kept(60, asked));
            unchanged("game", cake -> cake.game(0, 1, 4, asked));
            unchanged("ruled", cake -> cake.ruled(asked));
            unchanged("look", cake -> cake.look(60, asked));
            unchanged("flames", cake -> cake.flames(10, 60, 100, asked));
            unchanged("pence", cake -> cake.pence(9999, asked));
        }
        for (int what = 0; what < 14; what++) {
            int asked = what;
            unchanged("count", cake -> cake.count(asked));
            unchanged("slice", cake -> cake.slice(1, asked));
            unchanged("guest", cake -> cake.guest(1, asked));
        }
    }

    /** Ten slices of size 1, which five guests take by turns, slice 9 at turn 9: then each has what they rue. */
    private static RueCake full(int turns) {
        RueCake cake = feasting("cake 0 1" + times(";slice 0 1", 10) + times(";guest 2", 5));
        for (int turn = 0; turn < turns; turn++) {
            due("taken", cake.turnOne(), turn);
        }
        return cake;
    }

    /** "SLICES 0 to 9, GUESTS 0 to 4": the last of each is looked at as the others are, by turns that are asked */
    private static void fullTable() {
        RueCake cake = full(0);
        due("ahead, not yet", cake.ahead(9, 9, 0), -1);
        due("ahead, one free", cake.ahead(9, 9, 2), 1);
        due("ahead, taken", cake.ahead(9, 10, 0), 4);
        due("ahead, none free", cake.ahead(9, 10, 2), 0);
        due("ahead, worth of the last guest", cake.ahead(4, 9, 1) * 10 + cake.ahead(4, 10, 1), 12);
        due("left", cake.left(), 10);
        due("begin", cake.begin(4, 9, 0) * 10 + cake.begin(4, 9, 1), 12);
        due("begin of another", cake.begin(3, 9, 0) * 10 + cake.begin(3, 9, 1), 2);
        leaveIs(cake, 8, -1, 3);
        leaveIs(cake, 9, -1, 4);
        leaveIs(cake, 10, -1, 5);
        keptIs(cake, 9, 1, 1);
        keptIs(cake, 10, 0, 0);
        flamesAre(cake, 10, 9, 0, two(10, 10));
        flamesAre(cake, 10, 10, 0, two(0, 0));
        due("a rule that leaves the last one", ruleOf(cake, "take 9-slice"), 0);
        lookIs(cake, 8, 0, 2);
        lookIs(cake, 9, 9, 1);
        cake.note(9, 9, 4);
        ruledIs(cake, 1, -1);
        cake.note(-1, 0, 0);
        cake.note(9, 9, -1);
        ruledIs(cake, 1, 0);
    }

    /** The same for what is asked of slices as they are: with none, four, nine and all of them taken. */
    private static void fullTableShared() {
        int[] envy = {0, 30, 28, 24, 16, 0, 30, 28, 24, 16, 0};
        for (int turns = 0; turns <= 10; turns++) {
            RueCake cake = full(turns);
            due("envy at turn " + turns, cake.envy(), envy[turns]);
            due("fair ways at turn " + turns, cake.fair(-1), new int[] {-3, -3, -3, -3, 360, 120, 24, 6, 2, 1, 1}[turns]);
            due("whose the last is", cake.fair(9), turns < 4 ? -3 : turns < 10 ? 4 : -2);
            due("whose the fifth is", cake.fair(4), turns < 4 ? -3 : turns == 4 ? 0 : -2);
            due("free", cake.count(8), 1023 >> turns << turns);
            needsAre(cake, 4, turns < 5 ? 2 : turns < 10 ? 1 : 0, turns < 5 ? 3 << turns : turns < 10 ? 1 << turns : 0);
            twosAre(cake, 0, -2, -2);
            due("kept for 60", cake.kept(60, 0), 0);
            due("game", cake.game(4, 0, 1, 1), turns < 10 ? turns : -1);
        }
        RueCake cake = full(10);
        due("the last guest has the last slice", cake.guest(4, 2), 1 << 9 | 1 << 4);
        due("and lays it", cake.lay(9), 4);
        due("and is envious", cake.envy(), 16);
        due("one way", cake.fair(-1) * 10 + cake.fair(9), 14);
    }

    /** One slice of worth 5, taken at a turn and not before. */
    private static RueCake takenAt(int turn) {
        return forced("cake 0 1;slice 0 5;guest 1", "take 1 if turn>=" + turn);
    }

    /** "AHEAD n TURNS (0 to 100)" */
    private static void aheadOfTheBounds() {
        RueCake cake = takenAt(0);
        due("0 turns ahead", cake.ahead(0, 0, 0), -1);
        due("0 turns ahead, worth", cake.ahead(0, 0, 1), 0);
        due("0 turns ahead, free", cake.ahead(0, 0, 2), 1);
        due("1 turn ahead", cake.ahead(0, 1, 0), 0);
        due("1 turn ahead, worth", cake.ahead(0, 1, 1), 5);
        due("1 turn ahead, free", cake.ahead(0, 1, 2), 0);
        cake = takenAt(99);
        due("99 turns ahead", cake.ahead(0, 99, 0), -1);
        due("99 turns ahead, worth", cake.ahead(0, 99, 1), 0);
        due("99 turns ahead, free", cake.ahead(0, 99, 2), 1);
        due("100 turns ahead", cake.ahead(0, 100, 0), 0);
        due("100 turns ahead, worth", cake.ahead(0, 100, 1), 5);
        due("100 turns ahead, free", cake.ahead(0, 100, 2), 0);
        cake = takenAt(102);
        cake.turnOne();
        cake.turnOne();
        due("from turn 2 on not yet", cake.ahead(0, 100, 0), -1);
        cake.turnOne();
        due("from turn 3 on", cake.ahead(0, 100, 0), 0);
        cake.take(0, 0);
        due("as it is", cake.ahead(0, 0, 0), 0);
        cake = feasting("cake 0 0;slice 0 5;slice 0 5");
        due("without guests nobody", cake.ahead(1, 100, 0), -1);
        due("without guests all are free", cake.ahead(0, 100, 2), 2);
        due("without slices none is", feasting("cake 0 0;guest 9").ahead(0, 100, 2), 0);
        due("without slices worth", feasting("cake 0 0;guest 9").ahead(0, 100, 1), 0);
    }

    /** "-2 without these, or a FEAST"; "2: how many are FREE (of no number)" */
    private static void aheadRefused() {
        for (int n : new int[] {-1, -2, 101, 102, MIN, MAX}) {
            for (int what = 0; what < 3; what++) {
                int asked = what;
                refused("ahead " + n, Checks::fullStory, cake -> cake.ahead(0, n, asked), -2);
            }
        }
        for (int slice : NO_SLICES) {
            refused("ahead of slice " + slice, Checks::fullStory, cake -> cake.ahead(slice, 1, 0), -2);
            refused("of no number", Checks::fullStory, cake -> cake.ahead(slice, 1, 2), 2);
        }
        for (int guest : NO_GUESTS) {
            refused("ahead of guest " + guest, Checks::fullStory, cake -> cake.ahead(guest, 1, 1), -2);
            refused("of no number", Checks::fullStory, cake -> cake.ahead(guest, 0, 2), 3);
        }
        for (int what : new int[] {-1, -2, 3, 4, MIN, MAX}) {
            refused("ahead what " + what, Checks::fullStory, cake -> cake.ahead(0, 1, what), -2);
        }
        RueCake cake = feasting("cake 0 0;guest 9");
        due("no slices", cake.ahead(0, 1, 0), -2);
        due("no guests", feasting("cake 0 0;slice 0 9").ahead(0, 1, 1), -2);
    }

    /** "LEFT: the first TURN, this one the first, of 100, at whose begin no SLICE is FREE"; "-2: at none of these" */
    private static void leftOfAHundred() {
        due("taken at turn 0", takenAt(0).left(), 1);
        due("taken at turn 97", takenAt(97).left(), 98);
        due("taken at turn 98", takenAt(98).left(), 99);
        due("taken at turn 99", takenAt(99).left(), -2);
        RueCake cake = takenAt(101);
        for (int turn = 0; turn < 3; turn++) {
            due("from turn " + turn + " on", cake.left(), -2);
            cake.turnOne();
        }
        due("from turn 3 on", cake.left(), 102);
        cake.take(0, 0);
        due("this one", cake.left(), 3);
        cake.turnOne();
        due("this one, a turn later", cake.left(), 4);
        cake.lay(0);
        due("free again", cake.left(), 102);
    }

    private static void leftWithoutAny() {
        RueCake cake = feasting("cake 0 0;guest 9");
        due("no slices", cake.left(), 0);
        cake.turnOne();
        due("no slices at turn 1", cake.left(), 1);
        due("neither slices nor guests", feasting("cake 0 0").left(), 0);
        due("no guests", feasting("cake 0 0;slice 0 1").left(), -2);
        due("who rues nothing leaves it", feasting("cake 0 0;slice 0 1;guest 0").left(), -2);
        cake = feasting("cake 0 0" + times(";slice 0 1", 10) + times(";guest 99", 5));
        due("ten slices", cake.left(), 10);
        refused("without a feast", it -> { }, RueCake::left, -1);
    }

    /** "a GUEST ENVIES another one, if what that one has is WORTH more to them than what they have" */
    private static void envies() {
        RueCake cake = feasting("cake 0 0;slice 0 4;slice 0 5;slice 0 4;guest 0;guest 0;guest 0;likes 2 0 0");
        due("nobody has any", cake.envy(), 0);
        cake.take(0, 0);
        due("who has none; who likes none does not", cake.envy(), 2);
        cake.take(1, 2);
        due("as much", cake.envy(), 0);
        cake.swap(0, 2);
        due("as much, swapped", cake.envy(), 0);
        cake.lay(2);
        cake.take(0, 1);
        cake.lay(0);
        cake.take(1, 0);
        due("4 to 5", cake.envy(), 2);
        cake.lay(1);
        cake.take(2, 1);
        due("of whoever it is", cake.envy(), 3);
        cake = feasting("cake 0 0;slice 0 1;guest 0;guest 0;guest 0;guest 0;guest 0");
        int[] bits = {30, 29, 27, 23, 15};
        for (int guest = 0; guest < 5; guest++) {
            cake.take(guest, 0);
            due("all but guest " + guest, cake.envy(), bits[guest]);
            cake.lay(0);
        }
        due("one guest alone", feasting("cake 0 0;slice 0 1;guest 5").envy(), 0);
        due("no guests", feasting("cake 0 0;slice 0 1").envy(), 0);
        due("no slices", feasting("cake 0 0;guest 5;guest 5").envy(), 0);
        due("nothing at all", feasting("cake 0 0").envy(), 0);
        refused("without a feast", it -> { }, RueCake::envy, -1);
    }

    private static void needsAre(RueCake cake, int guest, int many, int set) {
        due("how many", cake.needs(guest, 0), many);
        due("the set", cake.needs(guest, 1), set);
    }

    /** "the fewest FREE SLICES that .. are WORTH as much as they RUE, or more ..: how many; of several sets the least" */
    private static void needsFewest() {
        String slices = "cake 0 1;slice 0 3;slice 1 4;slice 0 5;slice 2 9;likes 0 2 0";
        for (int rue = 0; rue < 15; rue++) {
            RueCake cake = feasting("cake 0 1;guest " + rue + slices.substring(8));
            int set = rue == 0 ? 0 : rue <= 3 ? 1 : rue == 4 ? 2 : rue == 5 ? 4 : rue <= 7 ? 3 : rue == 8 ? 5 : rue == 9 ? 6
                : rue <= 12 ? 7 : -2;
            needsAre(cake, 0, set < 0 ? -2 : Integer.bitCount(set), set);
        }
        RueCake cake = feasting("cake 0 1;guest 8" + slices.substring(8));
        cake.take(0, 0);
        needsAre(cake, 0, 1, 4);
        cake.take(0, 2);
        needsAre(cake, 0, 0, 0);
        cake.stir(0);
        needsAre(cake, 0, 1, 2);
        cake.take(0, 1);
        needsAre(cake, 0, 0, 0);
        cake = feasting("cake 0 1;guest 5;guest 5" + slices.substring(8));
        cake.take(1, 2);
        needsAre(cake, 0, 2, 3);
        cake.take(1, 0);
        needsAre(cake, 0, -2, -2);
        cake = feasting("cake 0 9" + times(";slice 0 9", 10) + ";guest 81;guest 82;guest 90;guest 91;guest 0");
        needsAre(cake, 0, 9, 511);
        needsAre(cake, 1, 10, 1023);
        needsAre(cake, 2, 10, 1023);
        needsAre(cake, 3, -2, -2);
        needsAre(cake, 4, 0, 0);
        needsAre(feasting("cake 0 0;guest 0"), 0, 0, 0);
        needsAre(feasting("cake 0 0;guest 1"), 0, -2, -2);
    }

    /** "-2: by none. NONE without these." */
    private static void needsRefused() {
        for (int guest : NO_GUESTS) {
            refused("needs of guest " + guest, Checks::fullStory, cake -> cake.needs(guest, 0), -1);
            refused("needs of guest " + guest, Checks::fullStory, cake -> cake.needs(guest, 1), -1);
        }
        for (int what : NO_WHAT) {
            refused("needs what " + what, Checks::fullStory, cake -> cake.needs(0, what), -1);
        }
    }

    private static void twosAre(RueCake cake, int many, int less, int greater) {
        due("how many twos", cake.twos(0), many);
        due("the first", cake.twos(1), less);
        due("its other", cake.twos(2), greater);
    }

    /** "two SLICES of two GUESTS, by whose SWAP both would have what is WORTH more to them: how many; the first" */
    private static void twosThatGain() {
        String feast = "cake 0 0;slice 0 3;slice 1 3;slice 0 3;slice 1 4;guest 0;guest 0;guest 0;likes 0 1 2;likes 1 0 2";
        RueCake cake = feasting(feast);
        twosAre(cake, 0, -2, -2);
        cake.take(0, 0);
        twosAre(cake, 0, -2, -2);
        cake.take(1, 1);
        twosAre(cake, 1, 0, 1);
        cake.take(0, 2);
        twosAre(cake, 2, 0, 1);
        cake.lay(0);
        twosAre(cake, 1, 1, 2);
        cake.take(1, 3);
        twosAre(cake, 2, 1, 2);
        cake.lay(1);
        twosAre(cake, 1, 2, 3);
        cake = feasting(feast);
        cake.take(2, 0);
        cake.take(1, 1);
        twosAre(cake, 0, -2, -2);
        cake = feasting(feast);
        cake.take(0, 1);
        cake.take(2, 3);
        twosAre(cake, 0, -2, -2);
        // as much is not more: of one of the two, of the other, of both
        for (int likes = 0; likes < 9; likes++) {
            cake = feasting("cake 0 0;slice 0 1;slice 1 1;guest 0;guest 0;likes 0 1 " + likes % 3 + ";likes 1 0 " + likes / 3);
            cake.take(0, 0);
            cake.take(1, 1);
            twosAre(cake, likes == 8 ? 1 : 0, likes == 8 ? 0 : -2, likes == 8 ? 1 : -2);
        }
        cake = feasting("cake 0 0" + times(";slice 0 1", 5) + times(";slice 1 1", 5) + ";guest 0;guest 0;likes 0 1 2;likes 1 0 2");
        for (int slice = 0; slice < 10; slice++) {
            cake.take(slice / 5, slice);
        }
        twosAre(cake, 25, 0, 5);
        cake.swap(0, 9);
        twosAre(cake, 16, 1, 5);
    }

    /** "NONE for others, or without a FEAST" */
    private static void twosRefused() {
        for (int what : new int[] {-1, -2, 3, 4, MIN, MAX}) {
            refused("twos " + what, Checks::fullStory, cake -> cake.twos(what), -1);
        }
        twosAre(feasting("cake 0 0"), 0, -2, -2);
    }

    private static void roundIs(String feast, int much, int... owners) {
        RueCake cake = feasting(feast);
        due("least worth in " + feast, cake.round(-1), much);
        for (int slice = 0; slice < 10; slice++) {
            due("who has slice " + slice, cake.round(slice), slice < owners.length ? owners[slice] : -2);
        }
    }

    /** "cut into as many pieces of SLICES side by side in the ring as there are GUESTS, none empty .. the first such" */
    private static void roundCuts() {
        roundIs("cake 0 0;slice 0 1;guest 0", 1, 0);
        roundIs("cake 0 0;slice 0 1;slice 0 2;guest 0", 3, 0, 0);
        roundIs("cake 0 0;slice 0 1;slice 0 2;guest 0;guest 0", 1, 0, 1);
        // behind the last one the first: 1 and 8 are side by side
        roundIs("cake 0 0;slice 0 1;slice 0 2;slice 0 7;slice 0 8;guest 0;guest 0", 9, 0, 1, 1, 0);
        roundIs("cake 0 0;slice 0 1;slice 0 1;slice 0 7;slice 0 8;slice 0 1;guest 0;guest 0", 9, 0, 0, 0, 1, 1);
        roundIs("cake 0 0;slice 1 1;slice 1 1;slice 1 1;guest 0;guest 0;likes 0 1 0;likes 1 1 0", 0, 0, 0, 1);
        roundIs("cake 0 0;slice 0 2;slice 1 2;guest 0;guest 0;likes 0 0 0;likes 1 1 0", 2, 1, 0);
        roundIs("cake 0 0;slice 0 2;slice 1 2;slice 2 2;guest 0;guest 0;guest 0;likes 0 2 9;likes 1 0 9;likes 2 1 9", 18, 1, 2, 0);
        // side by side alone: 0 1 0 1 would be 10 for both
        roundIs("cake 0 0;slice 0 5;slice 1 5;slice 0 5;slice 1 5;guest 0;guest 0;likes 0 1 0;likes 1 0 0", 5, 0, 0, 0, 1);
        roundIs("cake 0 0;slice 0 5;slice 1 5;slice 2 5;slice 1 5;guest 0;guest 0;guest 0"
            + ";likes 0 1 0;likes 0 2 0;likes 1 0 0;likes 1 2 0;likes 2 0 0;likes 2 1 0", 5, 0, 0, 2, 1);
        // nobody has two pieces: 0 1 0 2 and 1 0 2 0 would come ahead of these
        String each = "guest 0;guest 0;guest 0;likes 0 1 0;likes 0 2 0;likes 0 3 0;likes 1 0 0;likes 1 2 0;likes 1 3 0"
            + ";likes 2 0 0;likes 2 1 0;likes 2 3 0";
        roundIs("cake 0 0;slice 0 5;slice 1 5;slice 3 5;slice 2 5;" + each, 5, 0, 1, 1, 2);
        roundIs("cake 0 0;slice 1 5;slice 0 5;slice 2 5;slice 3 5;" + each, 5, 1, 0, 2, 1);
        // round the end, the others between in each order: 2, then 1; 1, then 2
        roundIs("cake 0 0;slice 0 1;slice 2 9;slice 1 9;slice 0 8;guest 0;guest 0;guest 0;likes 1 2 0;likes 2 1 0", 9, 0, 2, 1, 0);
        roundIs("cake 0 0;slice 0 1;slice 1 9;slice 2 9;slice 0 8;guest 0;guest 0;guest 0;likes 1 2 0;likes 2 1 0", 9, 0, 1, 2, 0);
        roundIs("cake 0 0;slice 0 1;slice 2 9;slice 1 9;slice 0 8;guest 0;guest 0;guest 0;likes 0 1 0;likes 0 2 0;likes 0 0 0;"
            + "likes 1 0 9;likes 1 1 0;likes 1 2 0;likes 2 1 9", 0, 0, 0, 1, 2);
        roundIs("cake 0 0" + times(";slice 0 1", 5) + times(";guest 0", 5), 1, 0, 1, 2, 3, 4);
        roundIs("cake 0 0" + times(";slice 0 1", 6) + times(";guest 0", 5), 1, 0, 0, 1, 2, 3, 4);
        roundIs("cake 0 0" + times(";slice 0 1", 10) + times(";guest 0", 5), 2, 0, 0, 1, 1, 2, 2, 3, 3, 4, 4);
        roundIs("cake 0 0" + times(";slice 0 9", 10) + ";guest 0;likes 0 0 9", 810, 0, 0, 0, 0, 0, 0, 0, 0, 0, 0);
        RueCake cake = feasting("cake 0 0;slice 0 1;slice 0 2;slice 0 7;slice 0 8;guest 0;guest 0");
        cake.take(1, 0);
        cake.take(1, 3);
        due("whoever has it", cake.round(-1), 9);
        due("as ever", cake.round(0), 0);
    }

    /** "-2: it can't be (fewer SLICES than GUESTS, or no GUESTS). -3 for others, or without a FEAST." */
    private static void roundRefused() {
        String[] cannot = {"cake 0 0", "cake 0 0;slice 0 1", "cake 0 0" + times(";slice 0 1", 10), "cake 0 0;guest 1",
            "cake 0 0;slice 0 1;guest 1;guest 1", "cake 0 0" + times(";slice 0 1", 4) + times(";guest 1", 5)};
        for (String feast : cannot) {
            for (int what = -1; what < 10; what++) {
                due("round " + what + " of " + feast, feasting(feast).round(what), -2);
            }
            due("round of others", feasting(feast).round(10), -3);
        }
        for (int what : new int[] {-2, -3, 10, 11, MIN, MAX}) {
            refused("round " + what, Checks::fullStory, cake -> cake.round(what), -3);
        }
        for (int what = 5; what < 10; what++) {
            int asked = what;
            refused("none such " + what, Checks::fullStory, cake -> cake.round(asked), -2);
        }
    }

    private static void fairIs(RueCake cake, int many, int... guests) {
        due("ways", cake.fair(-1), many);
        for (int slice = 0; slice < 10; slice++) {
            due("whose slice " + slice + " is", cake.fair(slice), slice < guests.length ? guests[slice] : -2);
        }
    }

    /** "FAIR, if 6 SLICES or fewer are FREE: ways to give all of them to GUESTS, so that nobody ENVIES" */
    private static void fairShares() {
        String noLikes = "";
        for (int guest = 0; guest < 5; guest++) {
            noLikes += ";likes " + guest + " 0 0";
        }
        fairIs(feasting("cake 0 0" + times(";slice 0 1", 6) + times(";guest 0", 5) + noLikes), 15625, 0, 0, 0, 0, 0, 0);
        fairIs(feasting("cake 0 0" + times(";slice 0 1", 6) + times(";guest 0", 5)), 0);
        fairIs(feasting("cake 0 0" + times(";slice 0 1", 5) + times(";guest 0", 5)), 120, 0, 1, 2, 3, 4);
        fairIs(feasting("cake 0 0" + times(";slice 0 1", 6) + times(";guest 0", 3)), 90, 0, 0, 1, 1, 2, 2);
        fairIs(feasting("cake 0 0" + times(";slice 0 1", 6) + ";guest 0"), 1, 0, 0, 0, 0, 0, 0);
        RueCake cake = feasting("cake 0 0" + times(";slice 0 1", 8) + ";guest 0;guest 0");
        due("eight are free", cake.fair(-1), -3);
        cake.take(1, 0);
        due("seven", cake.fair(-1), -3);
        due("seven, of a slice", cake.fair(1), -3);
        due("seven, of one that is not free", cake.fair(0), -3);
        cake.take(1, 3);
        fairIs(cake, 15, -2, 0, 0, -2, 0, 0, 1, 1);
        cake.take(0, 7);
        // guest 1 has two, guest 0 one: two of five for guest 1
        fairIs(cake, 10, -2, 0, 0, -2, 0, 1, 1);
        fairIs(feasting("cake 0 0;guest 0;guest 0"), 1);
        fairIs(feasting("cake 0 0"), 1);
        fairIs(feasting("cake 0 0;slice 0 1"), 0);
        fairIs(feasting("cake 0 0" + times(";slice 0 1", 6)), 0);
        due("seven, no guests", feasting("cake 0 0" + times(";slice 0 1", 7)).fair(-1), -3);
        cake = feasting("cake 0 0;slice 0 2;slice 0 1;guest 0;guest 0");
        cake.take(0, 0);
        fairIs(cake, 0);
        cake.take(1, 1);
        fairIs(cake, 0);
        cake.lay(0);
        cake.lay(1);
        fairIs(cake, 0);
        cake = feasting("cake 0 0;slice 0 2;slice 0 2;guest 0;guest 0");
        cake.take(1, 0);
        cake.take(0, 1);
        fairIs(cake, 1);
    }

    /** "-3 for others, or without a FEAST, or if more than 6 are FREE" */
    private static void fairRefused() {
        for (int what : new int[] {-2, -3, 10, 11, MIN, MAX}) {
            refused("fair " + what, Checks::fullStory, cake -> cake.fair(what), -3);
        }
        Consumer<RueCake> seven = cake -> feastOf(cake, "cake 0 0" + times(";slice 0 1", 7) + ";guest 0;guest 0");
        for (int what = -2; what < 11; what++) {
            int asked = what;
            refused("fair of seven " + what, seven, cake -> cake.fair(asked), -3);
        }
    }

    /** "BEGIN of a GUEST for n TURNS (1 to 60): which GUEST had best be FIRST in place of what it is ..; how much" */
    private static void begins() {
        due("1 turn", takenAt(0).begin(0, 1, 1), 5);
        due("59 turns", takenAt(59).begin(0, 59, 1), 0);
        due("60 turns", takenAt(59).begin(0, 60, 1), 5);
        due("not 61", takenAt(60).begin(0, 60, 1), 0);
        for (int first = 0; first < 5; first++) {
            RueCake cake = feasting("cake " + first + " 0;slice 0 9;slice 0 3;slice 0 1" + times(";guest 50", 5));
            for (int guest = 0; guest < 5; guest++) {
                due("who begins has most", cake.begin(guest, 5, 0), guest);
                due("that is 9", cake.begin(guest, 5, 1), 9);
            }
            cake.turnOne();
            due("at turn 1 the one ahead", cake.begin(0, 1, 0), 4);
            due("at turn 1 of guest 3", cake.begin(3, 1, 0), 2);
        }
        RueCake cake = feasting("cake 2 0;slice 0 9;guest 0;guest 5;guest 5");
        due("of several the least", cake.begin(0, 60, 0), 0);
        due("nothing", cake.begin(0, 60, 1), 0);
        // with FIRST 0 or 1 guest 1 takes it, with 2 guest 2
        due("the least of two", cake.begin(1, 60, 0), 0);
        due("one alone", cake.begin(2, 60, 0), 2);
        due("of several the least, whatever was asked before", cake.begin(0, 60, 0), 0);
        due("nothing still", cake.begin(0, 60, 1), 0);
        due("one guest", feasting("cake 4 0;slice 0 9;guest 5").begin(0, 1, 0), 0);
        for (int what = 0; what < 2; what++) {
            int asked = what;
            for (int n : NO_TURNS) {
                refused("begin n " + n, Checks::fullStory, it -> it.begin(0, n, asked), -1);
            }
            for (int guest : NO_GUESTS) {
                refused("begin of " + guest, Checks::fullStory, it -> it.begin(guest, 1, asked), -1);
            }
        }
        for (int what : NO_WHAT) {
            refused("begin what " + what, Checks::fullStory, it -> it.begin(0, 1, what), -1);
        }
        refused("no guests", it -> feastOf(it, "cake 0 0;slice 0 1"), it -> it.begin(0, 1, 0), -1);
    }

    private static void leaveIs(RueCake cake, int n, int who, int many) {
        due("whose", cake.leave(n, 0), who);
        due("how many", cake.leave(n, 1), many);
    }

    /** "LEAVE for n TURNS (1 to 60): whose RUE were best 0 .., or nobody's ..; of several nobody's, then the least" */
    private static void leaves() {
        leaveIs(takenAt(0), 1, -1, 1);
        leaveIs(takenAt(59), 59, -1, 0);
        leaveIs(takenAt(59), 60, -1, 1);
        leaveIs(takenAt(60), 60, -1, 0);
        leaveIs(feasting("cake 0 0"), 60, -1, 0);
        leaveIs(feasting("cake 0 0;slice 0 5"), 1, -1, 0);
        leaveIs(feasting("cake 0 0;guest 0;guest 0;guest 0;guest 0;guest 0"), 1, -1, 5);
        leaveIs(feasting("cake 0 0;guest 5"), 60, -1, 0);
        leaveIs(feasting("cake 0 0;slice 0 5;slice 0 5;guest 5;guest 5;guest 5"), 3, -1, 2);
        leaveIs(feasting("cake 0 0;slice 0 5;slice 0 5;guest 10;guest 10;guest 5"), 3, 0, 1);
        leaveIs(feasting("cake 1 0;slice 0 5;slice 0 5;guest 5;guest 10;guest 10"), 3, 1, 1);
        leaveIs(feasting("cake 0 0;slice 0 5;slice 0 5;guest 5;guest 10;guest 5"), 3, 1, 2);
        leaveIs(feasting("cake 4 0;slice 0 5;slice 0 5;guest 5;guest 5;guest 0;guest 0;guest 99"), 3, 4, 4);
        RueCake cake = feasting("cake 0 1;slice 0 5;guest 5;guest 6");
        cake.take(1, 0);
        leaveIs(cake, 60, -1, 0);
        for (int what = 0; what < 2; what++) {
            int asked = what;
            for (int n : NO_TURNS) {
                refused("leave n " + n, Checks::fullStory, it -> it.leave(n, asked), -2);
            }
        }
        for (int what : NO_WHAT) {
            refused("leave what " + what, Checks::fullStory, it -> it.leave(1, what), -2);
        }
    }

    private static void keptIs(RueCake cake, int n, int many, int set) {
        due("how many kinds", cake.kept(n, 0), many);
        due("which", cake.kept(n, 1), set);
    }

    /** "KEPT for n TURNS (1 to 60): KINDS of which nobody takes a SLICE in these, so that nobody ENVIES then: fewest" */
    private static void keeps() {
        String four = "cake 0 0;slice 0 1;slice 1 1;slice 2 1;slice 3 1;guest 9;guest 9";
        keptIs(feasting(four), 1, 4, 15);
        keptIs(feasting(four), 2, 0, 0);
        // three turns want two slices alone: one kind kept leaves three of them
        keptIs(feasting(four), 3, 2, 3);
        keptIs(feasting("cake 0 0;slice 3 1;slice 1 1;slice 3 1;guest 9;guest 9"), 1, 2, 10);
        // KINDS 0 and 1 would do together, which is less as bits, but KIND 2 does alone
        keptIs(feasting("cake 0 0;slice 0 3;slice 2 2;slice 1 3;slice 2 2;guest 9;guest 9"), 3, 1, 4);
        String late = "cake 0 0;slice 2 1;guest 9;guest 9";
        keptIs(forced(late, "take 1 if turn>=59"), 59, 0, 0);
        keptIs(forced(late, "take 1 if turn>=59"), 60, 1, 4);
        keptIs(forced(late, "take 1 if turn>=60"), 60, 0, 0);
        RueCake cake = feasting(four);
        cake.take(1, 3);
        keptIs(cake, 1, 0, 0);
        cake.take(1, 2);
        cake.take(1, 1);
        keptIs(cake, 60, -2, -2);
        keptIs(feasting("cake 0 0"), 1, 0, 0);
        keptIs(feasting("cake 0 0;slice 0 1"), 60, 0, 0);
        keptIs(feasting("cake 0 0;slice 0 1;guest 9"), 60, 0, 0);
        for (int what = 0; what < 2; what++) {
            int asked = what;
            for (int n : NO_TURNS) {
                refused("kept n " + n, Checks::fullStory, it -> it.kept(n, asked), -1);
            }
        }
        for (int what : NO_WHAT) {
            refused("kept what " + what, Checks::fullStory, it -> it.kept(1, what), -1);
        }
    }

    private static void gameIs(RueCake cake, int n, int much, int slice) {
        due("how much in " + n, cake.game(0, 1, n, 0), much);
        due("the slice in " + n, cake.game(0, 1, n, 1), slice);
    }

    /** "GAME of two GUESTS for n turns (1 to 4): by turns, the first one first, each takes a FREE SLICE, any, if one is" */
    private static void games() {
        RueCake cake = feasting("cake 0 0;slice 0 1;slice 0 2;slice 0 4;slice 0 8;slice 0 9;guest 0;guest 0");
        gameIs(cake, 1, 9, 4);
        gameIs(cake, 2, 1, 4);
        gameIs(cake, 3, 5, 4);
        gameIs(cake, 4, 3, 4);
        cake.take(0, 3);
        cake.take(1, 4);
        gameIs(cake, 1, 3, 2);
        gameIs(cake, 2, 1, 2);
        gameIs(cake, 3, 2, 2);
        gameIs(cake, 4, 2, 2);
        cake.take(1, 1);
        cake.take(1, 2);
        gameIs(cake, 1, 9 - 15, 0);
        gameIs(cake, 4, 9 - 15, 0);
        cake.take(1, 0);
        gameIs(cake, 1, 8 - 16, -1);
        gameIs(cake, 4, 8 - 16, -1);
        // the first one may as well take what the second one likes: then the least
        cake = feasting("cake 0 0;slice 1 5;slice 0 5;guest 0;guest 0;likes 0 1 0;likes 1 0 0");
        gameIs(cake, 1, 5, 1);
        gameIs(cake, 2, 0, 0);
        due("the other one first", cake.game(1, 0, 1, 0) * 10 + cake.game(1, 0, 1, 1), 50);
        cake = feasting("cake 0 0;slice 1 5;guest 0;guest 0;likes 0 1 0");
        gameIs(cake, 1, 0, 0);
        // whoever likes none takes one all the same
        cake = feasting("cake 0 0;slice 0 5;slice 0 5;slice 0 5;slice 0 5;guest 0;guest 0;likes 1 0 0");
        gameIs(cake, 2, 5, 0);
        gameIs(cake, 3, 10, 0);
        gameIs(cake, 4, 10, 0);
        cake = feasting("cake 0 0;slice 0 5;slice 0 4;guest 0;guest 0;likes 0 0 0");
        gameIs(cake, 1, 0, 0);
        gameIs(cake, 2, -4, 0);
        // the greatest is at hand wherever it lies
        cake = feasting("cake 0 0;slice 0 9;slice 0 8;slice 0 4;slice 0 2;slice 0 1;guest 0;guest 0");
        gameIs(cake, 1, 9, 0);
        gameIs(cake, 2, 1, 0);
        gameIs(cake, 3, 5, 0);
        gameIs(cake, 4, 3, 0);
        cake = feasting("cake 0 0;slice 0 1;slice 0 8;slice 0 9;slice 0 2;slice 0 4;guest 0;guest 0");
        gameIs(cake, 3, 5, 2);
        gameIs(cake, 4, 3, 2);
        cake = feasting("cake 0 0;slice 0 7;slice 0 7;slice 0 7;guest 0;guest 0");
        gameIs(cake, 1, 7, 0);
        gameIs(cake, 4, 7, 0);
        gameIs(feasting("cake 0 0;guest 0;guest 0"), 4, 0, -1);
        cake = feasting("cake 0 0" + times(";slice 0 9", 10) + times(";guest 0", 5) + ";likes 4 0 9");
        for (int slice = 0; slice < 10; slice++) {
            cake.take(4, slice);
        }
        due("the least there is", cake.game(3, 4, 4, 0), -810);
        due("the most there is", cake.game(4, 3, 4, 0), 810);
    }

    /** "-1000 without these (unlike)" */
    private static void gamesRefused() {
        for (int what = 0; what < 2; what++) {
            int asked = what;
            for (int n : new int[] {0, -1, -2, 5, 6, MIN, MAX}) {
                refused("game n " + n, Checks::fullStory, cake -> cake.game(0, 1, n, asked), -1000);
            }
            for (int guest : NO_GUESTS) {
                refused("game of " + guest, Checks::fullStory, cake -> cake.game(guest, 1, 1, asked), -1000);
                refused("game with " + guest, Checks::fullStory, cake -> cake.game(0, guest, 1, asked), -1000);
                refused("game of " + guest + " alone", Checks::fullStory, cake -> cake.game(guest, guest, 1, asked), -1000);
            }
            refused("game of 0 with 0", Checks::fullStory, cake -> cake.game(0, 0, 1, asked), -1000);
            refused("game of 1 with 1", Checks::fullStory, cake -> cake.game(1, 1, 1, asked), -1000);
        }
        for (int what : NO_WHAT) {
            refused("game what " + what, Checks::fullStory, cake -> cake.game(0, 1, 1, what), -1000);
        }
        due("one guest", feasting("cake 0 0;guest 1;slice 0 1").game(0, 1, 1, 0), -1000);
    }

    private static void penceAre(String guests, int much, int... parts) {
        RueCake cake = feasting("cake 0 0" + guests);
        int sum = 0;
        for (int guest = 0; guest < parts.length; guest++) {
            due(much + " pence for " + guest + guests, cake.pence(much, guest), parts[guest]);
            sum += parts[guest];
        }
        due("all of them", sum, much);
    }

    /** "each the part downwards; what is left, one each, to those whose part lost most ..  (all RUE 0: alike)" */
    private static void pences() {
        penceAre(";guest 0", 0, 0);
        penceAre(";guest 0", 9999, 9999);
        penceAre(";guest 1", 9999, 9999);
        penceAre(";guest 99", 9998, 9998);
        penceAre(times(";guest 0", 5), 0, 0, 0, 0, 0, 0);
        penceAre(times(";guest 0", 5), 1, 1, 0, 0, 0, 0);
        penceAre(times(";guest 0", 5), 4, 1, 1, 1, 1, 0);
        penceAre(times(";guest 0", 5), 5, 1, 1, 1, 1, 1);
        penceAre(times(";guest 0", 5), 9999, 2000, 2000, 2000, 2000, 1999);
        penceAre(times(";guest 99", 5), 9999, 2000, 2000, 2000, 2000, 1999);
        penceAre(times(";guest 0", 4) + ";guest 1", 9999, 0, 0, 0, 0, 9999);
        penceAre(";guest 0;guest 1;guest 0;guest 1", 3, 0, 2, 0, 1);
        // 1.43, 2.86, 5.71; 0.14, 0.29, 0.57; 0.29, 0.57, 1.14
        penceAre(";guest 1;guest 2;guest 4", 10, 1, 3, 6);
        penceAre(";guest 1;guest 2;guest 4", 1, 0, 0, 1);
        penceAre(";guest 1;guest 2;guest 4", 2, 0, 1, 1);
        penceAre(";guest 1;guest 2;guest 4", 7, 1, 2, 4);
        penceAre(";guest 4;guest 2;guest 1", 10, 6, 3, 1);
        // a half each lost: the least first; 1.5, 3, 1.5
        penceAre(";guest 1;guest 2;guest 1", 6, 2, 3, 1);
        penceAre(";guest 99;guest 1", 9999, 9899, 100);
        penceAre(";guest 99;guest 98", 9999, 5025, 4974);
    }

    /** "PENCE (0 to 9999)"; "NONE without these" */
    private static void penceRefused() {
        for (int much : new int[] {-1, -2, 10000, 10001, MIN, MAX}) {
            refused(much + " pence", Checks::fullStory, cake -> cake.pence(much, 0), -1);
        }
        for (int guest : NO_GUESTS) {
            refused("pence of guest " + guest, Checks::fullStory, cake -> cake.pence(1, guest), -1);
        }
        due("no guests", feasting("cake 0 0;slice 0 1").pence(0, 0), -1);
    }

    /** "A NOTE (n NONE: there are none then, 0): how many"; "NOTES 0 to 9" */
    private static void notesTold() {
        RueCake cake = feasting(FEAST);
        due("none, of none", cake.note(-1, 0, 0), 0);
        for (int many = 1; many <= 10; many++) {
            due("how many", cake.note(many % 2 * 60, many % 2 * 4, many % 3 - 1), many);
            due("counted", cake.count(10), many);
        }
        due("no eleventh", cake.note(0, 0, -1), -2);
        due("ten", cake.count(10), 10);
        due("none then", cake.note(-1, 0, 0), 0);
        due("none", cake.count(10), 0);
        due("the first anew", cake.note(0, 0, -1), 1);
        due("none, whatever else is said", cake.note(-1, -9, MAX), 0);
        due("none again", cake.count(10), 0);
        due("without a feast, too", new RueCake().note(-1, 0, 0), 0);
        due("no acts", cake.count(11), 0);
    }

    private static void tellTen(RueCake cake) {
        feastOf(cake, FEAST);
        ruleOf(cake, "take size");
        for (int i = 0; i < 10; i++) {
            cake.note(i, 3, 1);
        }
    }

    /** "-2, and nothing happens, without these (GUEST NONE: nobody), or if there are 10" */
    private static void notesRefused() {
        for (int n : new int[] {-2, -3, 61, 62, MIN, MAX}) {
            refused("note at " + n, Checks::fullStory, cake -> cake.note(n, 0, 0), -2);
        }
        for (int slice : NO_SLICES) {
            refused("note of slice " + slice, Checks::fullStory, cake -> cake.note(0, slice, 0), -2);
        }
        for (int guest : new int[] {-2, -3, 2, 3, 4, 5, MIN, MAX}) {
            refused("note of guest " + guest, Checks::fullStory, cake -> cake.note(0, 0, guest), -2);
        }
        refused("an eleventh", AskEdgeTest::tellTen, cake -> cake.note(0, 3, 1), -2);
        refused("an eleventh that is not so", AskEdgeTest::tellTen, cake -> cake.note(0, 3, 0), -2);
        refused("an eleventh of nobody", AskEdgeTest::tellTen, cake -> cake.note(60, 0, -1), -2);
        due("no slices", feasting("cake 0 0;guest 1").note(0, 0, 0), -2);
        RueCake cake = feasting("cake 0 0;slice 0 1");
        due("no guests", cake.note(0, 0, 0), -2);
        due("nobody, without guests", cake.note(0, 0, -1), 1);
    }

    private static void ruledIs(RueCake cake, int many, int first) {
        due("how many rules", cake.ruled(0), many);
        due("the first", cake.ruled(1), first);
    }

    /** "behind the n-th TURN of all (0 to 60)"; "RULED: which of the RULES, and of none .. (none ahead of 0, told as NONE)" */
    private static void ruledByNotes() {
        RueCake cake = feasting("cake 0 1;slice 0 5;guest 1");
        ruledIs(cake, 1, -1);
        String[] rules = {"take 1 if turn>=1", "take 1 if turn>=59", "take 1 if turn>=60", "take 1 if turn>=61", "take 0", "take 1"};
        for (int i = 0; i < 6; i++) {
            due("rule", ruleOf(cake, rules[i]), i);
            ruledIs(cake, i + 2, -1);
        }
        int[][] notes = {{0, 0, 2, -1}, {0, -1, 5, 0}, {1, 0, 3, -1}, {1, -1, 4, 1}, {58, 0, 3, -1}, {58, -1, 4, 1}, {59, 0, 4, -1},
            {59, -1, 3, 2}, {60, 0, 5, -1}, {60, -1, 2, 3}};
        for (int[] note : notes) {
            due("one note", cake.note(note[0], 0, note[1]), 1);
            ruledIs(cake, note[2], note[3]);
            cake.turnOne();
            cake.stir(0);
            ruledIs(cake, note[2], note[3]);
            cake.note(-1, 0, 0);
        }
        cake.note(60, 0, 0);
        cake.note(59, 0, -1);
        ruledIs(cake, 1, 2);
        cake.note(59, 0, 0);
        ruledIs(cake, 0, -2);
        for (int wrong = 0; wrong <= 10; wrong++) {
            cake = feasting("cake 0 0;slice 0 5;guest 1");
            for (int n = 0; n < 10; n++) {
                cake.note(50 + n, 0, n == wrong ? -1 : 0);
            }
            ruledIs(cake, wrong < 10 ? 0 : 1, wrong < 10 ? -2 : -1);
            due("of ten notes each is looked at", cake.look(60, 0), wrong < 10 ? -2 : 0);
        }
        for (int what : NO_WHAT) {
            refused("ruled " + what, Checks::fullStory, it -> it.ruled(what), -3);
        }
        ruledIs(feasting("cake 0 0"), 1, -1);
    }

    private static void lookIs(RueCake cake, int n, int slice, int many) {
        due("where to look at " + n, cake.look(n, 0), slice);
        due("the most alike at " + n, cake.look(n, 1), many);
    }

    /** "LOOK behind the n-th TURN: the SLICE by whose it is these part best: the most alike are fewest" */
    private static void looks() {
        RueCake cake = ruling("cake 0 0;slice 0 5;slice 0 4;guest 9;guest 1", "take 0", "take slice",
            "take 1 if turn>=60 and slice=1", "take 1 if turn>=61");
        // behind turn 0 guest 0 has slice 0 by none and slice 1 by rule 1; by none guest 1 has slice 1 a turn later
        lookIs(cake, 0, 0, 4);
        lookIs(cake, 1, 1, 3);
        lookIs(cake, 59, 1, 3);
        // behind turn 60 slice 1 is guest 1's by none, guest 0's by rules 1 and 2, nobody's by rules 0 and 3
        lookIs(cake, 60, 1, 2);
        cake.note(0, 0, -1);
        lookIs(cake, 60, 1, 2);
        cake.note(0, 1, -1);
        lookIs(cake, 0, 0, 3);
        lookIs(cake, 60, 1, 2);
        cake.note(60, 1, -1);
        lookIs(cake, 60, 0, 2);
        cake = ruling("cake 0 0;slice 0 5;guest 0", "take 1", "take 2", "take 3", "take 4", "take 5", "take 6");
        lookIs(cake, 0, 0, 7);
        lookIs(cake, 60, 0, 7);
        lookIs(feasting("cake 0 0;slice 0 5;guest 1"), 0, 0, 1);
        for (int first = 0; first < 5; first++) {
            // whoever of more guests than slices has it
            lookIs(feasting("cake " + first + " 0;slice 0 5" + times(";guest 1", 5)), 0, 0, 1);
        }
        lookIs(feasting("cake 0 0;slice 0 5"), 60, 0, 1);
    }

    /** "-2: no RULE is so, or there are no SLICES. NONE without these, or a FEAST."; "(n 0 to 60)" */
    private static void looksRefused() {
        lookIs(feasting("cake 0 0;guest 1"), 0, -2, -2);
        lookIs(feasting("cake 0 0"), 60, -2, -2);
        RueCake cake = feasting("cake 0 0;slice 0 5;guest 1");
        cake.note(0, 0, -1);
        lookIs(cake, 0, -2, -2);
        lookIs(cake, 60, -2, -2);
        for (int what = 0; what < 2; what++) {
            int asked = what;
            for (int n : new int[] {-1, -2, 61, 62, MIN, MAX}) {
                refused("look at " + n, Checks::fullStory, it -> it.look(n, asked), -1);
                due("look at " + n + " where no rule is so", cake.look(n, asked), -1);
            }
        }
        for (int what : NO_WHAT) {
            refused("look what " + what, Checks::fullStory, it -> it.look(0, what), -1);
            due("no rule is so, what " + what, cake.look(0, what), -1);
        }
    }

    private static void flamesAre(RueCake cake, int m, int n, int p, int[] freeAndLess) {
        due("free", cake.flames(m, n, p, 0), freeAndLess[0]);
        due("less", cake.flames(m, n, p, 1), freeAndLess[1]);
    }

    private static int[] two(int free, int less) {
        return new int[] {free, less};
    }

    /** "FLAMES m times (1 to 10) n TURNS (1 to 60) from now on"; "all together"; "(STIR 0: nothing)" */
    private static void flamesAtTheBounds() {
        flamesAre(takenAt(0), 1, 1, 0, two(0, 0));
        flamesAre(takenAt(1), 1, 1, 0, two(1, 1));
        flamesAre(takenAt(59), 1, 59, 0, two(1, 1));
        flamesAre(takenAt(59), 1, 60, 0, two(0, 0));
        flamesAre(takenAt(60), 10, 60, 0, two(10, 10));
        for (int m = 1; m <= 10; m++) {
            flamesAre(takenAt(1), m, 1, 0, two(m, m));
        }
        flamesAre(feasting("cake 0 0;slice 0 5;guest 0"), 10, 60, 100, two(10, 0));
        flamesAre(feasting("cake 0 9;slice 0 5;slice 0 5"), 10, 60, 100, two(20, 0));
        flamesAre(feasting("cake 0 9"), 1, 1, 100, two(0, 0));
        flamesAre(feasting("cake 0 9;guest 0"), 10, 1, 100, two(0, 10));
        // 99 at most: who has 99 never has less; with 98 they have
        RueCake cake = feasting("cake 0 9;slice 0 9;slice 1 9;guest 95;likes 0 0 9;likes 0 1 2");
        cake.take(0, 0);
        cake.take(0, 1);
        flamesAre(cake, 10, 60, 100, two(0, 0));
        cake = feasting("cake 0 9;slice 0 7;slice 1 7;guest 95;likes 0 0 9;likes 0 1 5");
        cake.take(0, 0);
        cake.take(0, 1);
        flamesAre(cake, 10, 60, 100, two(0, 10));
    }

    private static int next(int x) {
        return (int) ((x * 1103515245L + 12345L) % 2147483648L);
    }

    /** An x whose next draw, of a hundred, is this. */
    private static int beforeDraw(int rest) {
        int x = 0;
        while (next(x) / 65536 % 100 != rest) {
            x += 7919;
        }
        return x;
    }

    /** "ahead of each a DRAW mod 100: is it below p (0 to 100), and are there GUESTS, a DRAW mod how many" */
    private static void flamesDrawn() {
        for (int rest : new int[] {0, 1, 50, 98, 99}) {
            RueCake cake = feasting("cake 0 1;slice 0 1;guest 0");
            cake.seed(beforeDraw(rest));
            flamesAre(cake, 1, 1, rest, two(1, 0));
            flamesAre(cake, 1, 1, rest + 1, two(0, 0));
        }
        for (int x = 0; x < 300; x++) {
            // a draw is x / 65536, at whichever of its ends x is: the rest by 100 is below one more, not below itself
            int seed = x * 7158278;
            int rest = next(seed) / 65536 % 100;
            RueCake cake = feasting("cake 0 1;slice 0 1;guest 0");
            due("seeded", cake.seed(seed), 0);
            flamesAre(cake, 1, 1, rest, two(1, 0));
            flamesAre(cake, 1, 1, rest + 1, two(0, 0));
        }
        for (int x : new int[] {0, 1, 12345, 2147483647, 2147483646}) {
            for (int guests = 1; guests <= 5; guests++) {
                int who = next(next(x)) / 65536 % guests;
                for (int first = 0; first < guests; first++) {
                    RueCake cake = feasting("cake " + first + " 1;slice 0 1" + times(";guest 0", guests));
                    cake.seed(x);
                    flamesAre(cake, 1, 1, 100, first == who ? two(0, 0) : two(1, 1));
                    due("x as it was", cake.count(12), x);
                }
            }
            RueCake cake = feasting("cake 0 1;slice 0 1;guest 0");
            cake.seed(x);
            int free = 0;
            int at = x;
            for (int m = 1; m <= 10; m++) {
                // x goes on from one time to the next; a second draw tells whom, if the first is below 50
                at = next(at);
                boolean stirred = at / 65536 % 100 < 50;
                at = stirred ? next(at) : at;
                free += stirred ? 0 : 1;
                flamesAre(cake, m, 1, 50, two(free, 0));
            }
        }
    }

    /** "NONE without these, or a FEAST" */
    private static void flamesRefused() {
        for (int what = 0; what < 2; what++) {
            int asked = what;
            for (int m : new int[] {0, -1, 11, 12, MIN, MAX}) {
                refused("flames m " + m, Checks::fullStory, cake -> cake.flames(m, 1, 0, asked), -1);
            }
            for (int n : NO_TURNS) {
                refused("flames n " + n, Checks::fullStory, cake -> cake.flames(1, n, 0, asked), -1);
            }
            for (int p : new int[] {-1, -2, 101, 102, MIN, MAX}) {
                refused("flames p " + p, Checks::fullStory, cake -> cake.flames(1, 1, p, asked), -1);
            }
        }
        for (int what : NO_WHAT) {
            refused("flames what " + what, Checks::fullStory, cake -> cake.flames(1, 1, 0, what), -1);
        }
    }
}
