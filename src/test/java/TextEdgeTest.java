/** The bounds of the tape, of the texts of feasts and rules, and their faults: a test for each sentence. */
public final class TextEdgeTest extends Checks {
    private static final String[] OTHER_CLAUSES = {"slice 0 1", "guest 0", "likes 0 0 0"};

    public static void main(String[] args) {
        fed();
        fedTooMuch();
        ended();
        feastIsTold();
        feastIsFaulty();
        ruleIsTold();
        ruleIsFaulty();
        ruleTooMany();
        forced();
        fullTapes();
        fortyClauses();
        cakeOnceAndFirst();
        numbersOfAFeast();
        likesOfWhom();
        tenSlicesFiveGuests();
        ring();
        ringsOfOneAndTwo();
        twelveClauses();
        numbersOfARule();
        words();
        wordsOfEachSlice();
        blanks();
        signs();
        sumsBind();
        testsBind();
        divisions();
        sixtyFourBits();
        tenDeep();
        sixtyParts();
        sixLongRules();
        rulesStandAlone();
        everyByteOfAFeast();
        everyByteOfARule();
        ends();
        firstFault();
        leastFault();
        tellAndEnd();
    }

    /** "Twenty bytes come behind the TAPE, of each number the highest first: how many it has" */
    private static void fed() {
        RueCake cake = new RueCake();
        due("bytes of a new tape", cake.count(13), 0);
        due("the first twenty", cake.feed(0x63616b65, 0x20332037, 0x3b736c69, 0x63652032, 0x20393b67), 20);
        due("twenty behind them", cake.feed(0x75657374, 0x2035363b, 0x736c6963, 0x65203120, 0x38202020), 40);
        due("forty", cake.count(13), 40);
        due("cake 3 7;slice 2 9;guest 56;slice 1 8", cake.feast(), 2);
        due("FIRST", cake.count(0), 3);
        due("STIR", cake.count(1), 7);
        due("KIND and SIZE of the first", cake.slice(0, 0) * 10 + cake.slice(0, 1), 29);
        due("KIND and SIZE of the other", cake.slice(1, 0) * 10 + cake.slice(1, 1), 18);
        due("RUE", cake.guest(0, 0), 56);
        due("bytes above 127 too", cake.feed(-1, -2, Integer.MIN_VALUE, 0x80808080, 0xff000000), 20);
        due("which can't stand", cake.feast(), fault(0, 0));
    }

    /** "NONE, and none comes, if it would have more than 400" */
    private static void fedTooMuch() {
        for (int length = 379; length <= 400; length++) {
            String text = times(" ", length - 8) + "cake 2 3";
            if (length <= 380) {
                due("to " + (length + 20), type(new RueCake(), text).feed(1, 2, 3, 4, 5), length + 20);
            } else {
                refused("more than 400 by " + (length - 380), cake -> type(cake, text),
                    cake -> cake.feed(0x20202020, 1, 2, 3, 4), -1);
            }
        }
        RueCake cake = new RueCake();
        for (int n = 20; n <= 400; n += 20) {
            due("twenty more", cake.feed(0, 0, 0, 0, 0), n);
        }
        due("none fits any more", cake.feed(0, 0, 0, 0, 0), -1);
        due("none has come", cake.count(13), 400);
    }

    /** "The TAPE has its first n bytes alone: n; NONE, and nothing happens, if it has not so many, or n is below 0" */
    private static void ended() {
        due("0 of none", new RueCake().end(0), 0);
        refused("1 of none", cake -> { }, cake -> cake.end(1), -1);
        refused("-1 of none", cake -> { }, cake -> cake.end(-1), -1);
        int[] wrong = {21, 22, 400, 401, Integer.MAX_VALUE, -1, -2, -20, Integer.MIN_VALUE};
        for (int n : wrong) {
            refused("end " + n + " of 20", Checks::fullStory, cake -> cake.end(n), -1);
        }
        refused("all of 20", Checks::fullStory, cake -> cake.end(20), 20);
        RueCake cake = type(new RueCake(), "cake 4 1;slice 0 1");
        due("all but one", cake.end(17), 17);
        due("they can't be had back", cake.end(18), -1);
        due("nine", cake.end(9), 9);
        type(cake, "guest 7");
        due("what is fed comes behind the ninth", cake.feast(), 0);
        due("the guest", cake.guest(0, 0), 7);
        due("of what was cut off nothing stands", cake.count(2), 0);
        cake.feed(1, 2, 3, 4, 5);
        due("end 0", cake.end(0), 0);
        due("empty", cake.count(13), 0);
        cake = type(new RueCake(), times(" ", 400));
        due("401 of 400", cake.end(401), -1);
        String[] texts = {"take 12", "take sizes", "take 1;take", "take 1 if 1<=1", "take 1 if 1<=1", "take 1 if 1<=2"};
        int[] lengths = {6, 9, 7, 12, 13, 11};
        int[] answers = {0, 0, fault(7, 0), fault(12, 0), fault(13, 0), fault(11, 0)};
        for (int i = 0; i < texts.length; i++) {
            RueCake cut = type(new RueCake(), texts[i]);
            cut.end(lengths[i]);
            due("what is cut off is not read: " + texts[i], cut.rule(), answers[i]);
        }
        due("400 of 400", cake.end(400), 400);
        due("399 of 400", cake.end(399), 399);
    }

    /** "The TAPE, which is empty then, is the FEAST in place of the one there was (no NOTES, ..): how many SLICES" */
    private static void feastIsTold() {
        RueCake cake = new RueCake();
        fullStory(cake);
        due("another feast", feastOf(cake, "cake 2 3;slice 1 4;guest 8;guest 9;slice 0 1;guest 0"), 2);
        int[] counts = {2, 3, 2, 3, 3, 1, 0, 2, 3, 4, 0, 0, 77, 0};
        for (int what = 0; what < counts.length; what++) {
            due("count " + what + " of the other feast", cake.count(what), counts[what]);
        }
        due("nobody has a slice", owners(cake), 99);
        due("nothing can be undone", cake.undo(), -1);
        due("likes of the one there was are gone", cake.guest(0, 3) * 10 + cake.guest(0, 5), 11);
        due("all rules fit no notes", cake.ruled(0), 4);
        due("images stay", cake.back(2), 1);
        due("as they were", cake.count(2), 5);
        due("no slices", feastOf(cake, "cake 0 0"), 0);
        due("none", cake.count(2) + cake.count(3) + cake.count(8) + cake.count(9), 0);
        due("nobody's turn", cake.count(7), -1);
        due("all that a tape holds", feastOf(cake, times(" ", 392) + "cake 3 3"), 0);
        due("and that has begun", cake.turnOne(), -1);
        due("in place of itself", feastOf(cake, "cake 3 3"), 0);
        due("it is turn 0", cake.count(6), 0);
    }

    /** "-2 - its FAULT, and all stays" */
    private static void feastIsFaulty() {
        String[] faulty = {"", "cake", "cake 0 0;slice 0 0", "cake 3 3;guest 9;slice 3 3;guest 100", "take 1"};
        int[] answers = {fault(0, 0), fault(4, 0), fault(17, 1), fault(33, 1), fault(0, 0)};
        for (int i = 0; i < faulty.length; i++) {
            String text = faulty[i];
            sameAs("all stays by " + text, Checks::fullStory, cake -> feastOf(cake, text), answers[i],
                cake -> cake.end(0));
            sameAs("no feast by " + text, cake -> { }, cake -> feastOf(cake, text), answers[i], cake -> cake.end(0));
        }
        RueCake cake = new RueCake();
        feastOf(cake, "cake 0 0;slice 0 0");
        due("still none", cake.turnOne(), -2);
        due("the tape is empty then", cake.count(13), 0);
    }

    /** "The TAPE, which is empty then, is a RULE: its number" */
    private static void ruleIsTold() {
        RueCake cake = feasting(FEAST);
        for (int number = 0; number < 6; number++) {
            due("rule of number " + number, ruleOf(cake, "take 1 if slice=" + number), number);
            due("how many", cake.count(4), number + 1);
            due("the tape is empty", cake.count(13), 0);
        }
        due("none is in force by that", cake.count(5), -1);
        for (int number = 0; number < 5; number++) {
            cake.force(number);
            due("taken by rule " + number, cake.ahead(number, 1, 0), 1);
            due("that alone", cake.ahead(0, 1, 2), 4);
        }
        due("without a feast", ruleOf(new RueCake(), "take 1"), 0);
    }

    /** "-2 - its FAULT": no number is used up by it */
    private static void ruleIsFaulty() {
        String[] faulty = {"", "take", "take 1;", "cake 0 0"};
        int[] answers = {fault(0, 0), fault(4, 0), fault(7, 0), fault(0, 0)};
        for (int i = 0; i < faulty.length; i++) {
            String text = faulty[i];
            sameAs("no rule by " + text, Checks::fullStory, cake -> ruleOf(cake, text), answers[i], cake -> cake.end(0));
        }
        RueCake cake = new RueCake();
        due("a fault", ruleOf(cake, "take 1 if"), fault(9, 0));
        due("none is there", cake.force(0), -2);
        due("the first all the same", ruleOf(cake, "take 1"), 0);
    }

    private static void tellSix(RueCake cake) {
        feastOf(cake, "cake 0 0;slice 0 1;guest 1");
        for (int i = 0; i < 6; i++) {
            ruleOf(cake, "take " + i);
        }
    }

    /** "NONE, and nothing happens: there are 6" */
    private static void ruleTooMany() {
        String[] seventh = {"take 1", "take", "", "cake 2 2"};
        for (String text : seventh) {
            refused("seventh rule " + text, cake -> type(tellSixOn(cake), text), RueCake::rule, -1);
        }
        RueCake cake = type(tellSixOn(new RueCake()), "cake 2 2");
        due("six", cake.count(4), 6);
        due("no seventh", cake.rule(), -1);
        due("still six", cake.count(4), 6);
        due("the tape stays", cake.count(13), 8);
        due("and is a feast", cake.feast(), 0);
    }

    private static RueCake tellSixOn(RueCake cake) {
        tellSix(cake);
        return cake;
    }

    /** "A RULE is IN FORCE (NONE: none): which was; -2, and nothing happens, if there is none such" */
    private static void forced() {
        RueCake cake = tellSixOn(new RueCake());
        int was = -1;
        for (int number = 5; number >= -1; number--) {
            due("force " + number, cake.force(number), was);
            due("in force", cake.count(5), number);
            was = number;
        }
        due("none, as before", cake.force(-1), -1);
        due("a sixth", cake.force(6), -2);
        int[] others = {3, 4, 5, 6, Integer.MAX_VALUE, -2, -3, Integer.MIN_VALUE};
        for (int number : others) {
            refused("force " + number + " of three", Checks::fullStory, x -> x.force(number), -2);
        }
        refused("force 0 of none", x -> { }, x -> x.force(0), -2);
        refused("force none of none", x -> { }, x -> x.force(-1), -1);
    }

    /** "a text of at most 400 bytes": all of them signs of their own */
    private static void fullTapes() {
        for (String sign : new String[] {";", "[", "]", "=", "<", "+", "A", "" + (char) 255, "" + (char) 0}) {
            feastFault(times(sign, 400), 0, 0);
            ruleFault(times(sign, 400), 0, 0);
            feastFault("cake" + times(sign, 396), 4, 0);
            ruleFault("take" + times(sign, 396), 4, 0);
        }
        feastFault("cake0 0" + times(";", 393), 8, 0);
        ruleFault("take1" + times("+", 395), 6, 0);
        ruleFault("take1if" + times("[", 393), 17, 2);
        for (int blanks = 0; blanks < 400; blanks++) {
            String behind = times(" ", 399 - blanks);
            feastFault(times(" ", blanks) + "A" + behind, blanks, 0);
            ruleFault(times(" ", blanks) + "9" + behind, blanks, 0);
        }
        due("399 blanks and none", feastOf(new RueCake(), "cake 0 0" + times(" ", 391)), 0);
        due("400 of a feast", feastOf(new RueCake(), "cake 0 0" + times(" ", 392)), 0);
        due("400 of a rule", ruleOf(new RueCake(), "take 1" + times(" ", 394)), 0);
        due("400 with its end", feastOf(new RueCake(), "cake 0 0" + times(" ", 383) + ";slice0 1"), 1);
    }

    /** "CLAUSE { ; CLAUSE }, 40 at most": 41 can't come in 400 bytes, so that 40 and what may follow is asked */
    private static void fortyClauses() {
        String most = "cake0 0" + times(";slice0 1", 10) + times(";guest0", 5) + times(";likes0 0 0", 23);
        due("39", feastOf(new RueCake(), most), 10);
        String forty = most + ";likes4 3 9";
        due("40 are 396 bytes", forty.length(), 396);
        RueCake cake = new RueCake();
        due("40", feastOf(cake, forty), 10);
        due("the 40th", cake.guest(4, 6), 9);
        due("40 and blanks", feastOf(new RueCake(), forty + "    "), 10);
        feastFault(forty + ";", 397, 0);
        feastFault(forty + ";   ", 400, 0);
        feastFault(forty + ";lik", 397, 0);
        due("one alone", feastOf(new RueCake(), "cake 0 0"), 0);
    }

    /** "once, the first CLAUSE"; "4 .. a second cake, another CLAUSE ahead of it .. (at its first byte)" */
    private static void cakeOnceAndFirst() {
        for (String other : OTHER_CLAUSES) {
            feastFault(other, 0, 4);
            feastFault("  " + other + ";cake 0 0", 2, 4);
        }
        feastFault("slice 9 99", 0, 4);
        feastFault("cake 0 0;cake 0 0", 9, 4);
        feastFault("cake 0 0;slice 0 1;guest 1; cake 9 99", 28, 4);
    }

    /** That a number may be from least to most alone, and is of five digits at most. */
    private static void bounds(String before, int least, int most, String behind) {
        for (int number = least; number <= most; number++) {
            int answer = feastOf(new RueCake(), before + number + behind);
            due(before + number + behind, answer < 0 ? answer : 0, 0);
        }
        String[] others = {"" + (most + 1), "" + (most + 10), "99999", "00000" + most, times("0", 100), "4294967296",
            "18446744073709551616"};
        for (String other : others) {
            feastFault(before + other + behind, before.length(), 1);
        }
        if (least > 0) {
            feastFault(before + (least - 1) + behind, before.length(), 1);
        }
        feastFault(before + "-1" + behind, before.length(), 0);
        feastFault(before + "+1" + behind, before.length(), 0);
        int answer = feastOf(new RueCake(), before + "0000" + least + behind);
        due("five digits, and from 0 on", answer < 0 ? answer : 0, 0);
    }

    /** "FIRST 0 to 4", "STIR 0 to 9", "KIND 0 to 3; SIZE 1 to 9", "RUE 0 to 99", "LIKE it, 0 to 9" */
    private static void numbersOfAFeast() {
        bounds("cake ", 0, 4, " 0");
        bounds("cake 0 ", 0, 9, "");
        bounds("cake 0 0;slice ", 0, 3, " 1");
        bounds("cake 0 0;slice 0 ", 1, 9, ";guest 0");
        bounds("cake 0 0;guest ", 0, 99, "");
        bounds("cake 0 0;guest 1;guest 2;likes ", 0, 1, " 0 0");
        bounds("cake 0 0;guest 1;likes 0 ", 0, 3, " 0");
        bounds("cake 0 0;guest 1;likes 0 0 ", 0, 9, "");
        RueCake cake = feasting("cake 4 9;slice 3 9;guest 99;likes 0 3 9;slice 0 1;guest 0;likes 1 0 0");
        due("the greatest and the least", cake.count(0) * 10 + cake.count(1), 49);
        due("of slices", cake.slice(0, 0) * 1000 + cake.slice(0, 1) * 100 + cake.slice(1, 0) * 10 + cake.slice(1, 1), 3901);
        due("of guests", cake.guest(0, 0) * 100 + cake.guest(1, 0), 9900);
        due("of likings", cake.guest(0, 6) * 10 + cake.guest(1, 3), 90);
    }

    /** "a GUEST that was told"; "of the same two the last told; 1 without"; "in the order told" */
    private static void likesOfWhom() {
        feastFault("cake 0 0;likes 0 0 0", 15, 1);
        feastFault("cake 0 0;likes 0 0 0;guest 1", 15, 1);
        for (int told = 1; told <= 5; told++) {
            String text = "cake 0 0" + times(";guest 1", told) + ";likes ";
            due("the last one told", feastOf(new RueCake(), text + (told - 1) + " 0 0"), 0);
            feastFault(text + told + " 0 0", text.length(), 1);
        }
        RueCake cake = feasting("cake 0 0;guest 1;likes 0 2 5;guest 2;likes 1 2 6;likes 0 2 7;likes 0 3 0");
        due("the last told", cake.guest(0, 5), 7);
        due("of the other guest", cake.guest(1, 5), 6);
        due("0 is told", cake.guest(0, 6), 0);
        due("1 without", cake.guest(0, 3) * 100 + cake.guest(0, 4) * 10 + cake.guest(1, 6), 111);
        cake = feasting("cake 0 0;slice 1 1;guest 3;slice 2 2;guest 4;slice 3 3;guest 5");
        for (int i = 0; i < 3; i++) {
            due("slices in the order told", cake.slice(i, 0) * 10 + cake.slice(i, 1), 11 * (i + 1));
            due("guests in the order told", cake.guest(i, 0), 3 + i);
        }
    }

    /** "SLICES 0 to 9, GUESTS 0 to 4"; "4 .. an eleventh SLICE, a sixth GUEST (at its first byte)"; "all are FREE" */
    private static void tenSlicesFiveGuests() {
        for (int slices = 0; slices <= 10; slices++) {
            RueCake cake = new RueCake();
            due("slices", feastOf(cake, "cake 0 0" + times(";slice 1 2", slices) + ";guest 1"), slices);
            due("TURN 0", cake.count(6), 0);
            due("all are free", cake.count(8), (1 << slices) - 1);
            due("the last one", cake.slice(slices - 1, 1), slices == 0 ? -2 : 2);
            due("no more", cake.slice(slices, 1), -2);
        }
        feastFault("cake 0 0" + times(";slice 1 2", 10) + "; slice 1 2", 110, 4);
        feastFault("cake 0 0" + times(";slice 1 2", 10) + ";slice 9 99", 109, 4);
        for (int guests = 0; guests <= 5; guests++) {
            RueCake cake = feasting("cake 0 0;slice 0 1" + times(";guest 7", guests));
            due("guests", cake.count(3), guests);
            due("the last", cake.guest(guests - 1, 0), guests == 0 ? -1 : 7);
            due("no other", cake.guest(guests, 0), -1);
        }
        feastFault("cake 0 0" + times(";guest 7", 5) + "; guest 7", 50, 4);
        feastFault("cake 0 0" + times(";guest 7", 5) + ";guest", 49, 4);
        RueCake cake = feasting("cake 0 0" + times(";slice 1 2", 10) + times(";guest 3", 5));
        due("a full one", cake.count(2) * 10 + cake.count(3), 105);
    }

    /** "SLICES lie in a ring: behind the last one the first"; "beside (which of the two next to it are theirs ..)" */
    private static void ring() {
        int[] counts = {1, 2, 3, 4, 5, 6, 7, 8, 9};
        for (int last : counts) {
            RueCake cake = forced("cake 0 0" + times(";slice 0 1", last + 1) + ";guest 90;guest 90", "take beside");
            cake.take(0, 0);
            due("beside slice 0 of " + (last + 1), cake.turnOne(), 1);
            cake = forced("cake 0 0" + times(";slice 0 1", last + 1) + ";guest 90;guest 90",
                "take slice if beside>0");
            cake.take(0, 0);
            due("the last is beside the first", cake.turnOne(), last);
            cake = forced("cake 0 0" + times(";slice 0 1", last + 1) + ";guest 90;guest 90",
                "take 99-slice if beside>0");
            cake.take(0, last);
            due("the first is beside the last", cake.turnOne(), 0);
        }
        RueCake cake = forced("cake 0 0" + times(";slice 0 1", 5) + ";guest 90;guest 90", "take 1 if beside=2");
        cake.take(0, 1);
        cake.take(0, 3);
        cake.take(1, 0);
        due("on both sides", cake.turnOne(), 2);
        cake = forced("cake 0 0" + times(";slice 0 1", 5) + ";guest 90;guest 90", "take 1 if beside=2");
        cake.take(0, 1);
        cake.take(1, 3);
        due("the other's do not count", cake.turnOne(), -1);
        cake.lay(3);
        due("nor do free ones", cake.ahead(2, 1, 0), -1);
        cake = forced("cake 0 0" + times(";slice 0 1", 3) + ";guest 90", "take 1 if beside=2");
        cake.take(0, 0);
        due("of three one", cake.turnOne(), -1);
        cake.take(0, 1);
        due("of three both", cake.turnOne(), 2);
    }

    /** "of a ring of two the other one counts twice, of one it itself" */
    private static void ringsOfOneAndTwo() {
        for (int other = 0; other < 2; other++) {
            String two = "cake 0 0;slice 0 1;slice 0 1;guest 90;guest 90";
            RueCake cake = forced(two, "take 1 if beside=2");
            cake.take(0, other);
            due("twice", cake.turnOne(), 1 - other);
            cake = forced(two, "take 1 if beside=1");
            cake.take(0, other);
            due("not once", cake.turnOne(), -1);
            cake = forced(two, "take 1 if beside=0");
            cake.take(1, other);
            due("the other's, none", cake.turnOne(), 1 - other);
        }
        due("of one, which is free", forced("cake 0 0;slice 0 1;guest 90", "take 1 if beside=0").turnOne(), 0);
        due("that counts not at all", forced("cake 0 0;slice 0 1;guest 90", "take beside").turnOne(), -1);
    }

    /** "texts likewise, 12 CLAUSES at most"; "4 one CLAUSE too many (at its first byte)" */
    private static void twelveClauses() {
        for (int clauses = 1; clauses <= 12; clauses++) {
            takesBy(times("take 9 if 1=0;", clauses - 1) + "take slice", 4);
        }
        ruleFault(times("take 1;", 12) + "take 1", 84, 4);
        ruleFault(times("take 1;", 12) + "  take", 86, 4);
        ruleFault(times("take 1;", 12) + ";", 84, 0);
        ruleFault(times("take 1;", 12), 84, 0);
        ruleFault(times("take 1;", 12) + "tak 1", 84, 0);
        ruleFault(times("take 1;", 20), 84, 4);
        due("400 bytes", ruleOf(new RueCake(), times(" ", 394) + "take 1"), 0);
        ruleFault(times(" ", 396) + "take", 400, 0);
        takesBy(times("take 1 if 1=0;", 11) + "take 1 if 1=0", -1);
    }

    /** "NUMBER (1 to 5 digits, as far as digits go on)"; "1 a NUMBER of more digits" */
    private static void numbersOfARule() {
        takesBy("take 0", -1);
        takesBy("take 1", 0);
        takesBy("take 00001", 0);
        takesBy("take 00000", -1);
        takesBy("take 1 if 99999=99998+1", 0);
        takesBy("take 1 if 12345=12*1000+345", 0);
        takesBy("take 99999-99998", 0);
        ruleFault("take 000000", 5, 1);
        ruleFault("take 100000", 5, 1);
        ruleFault("take 999999", 5, 1);
        ruleFault("take " + times("1", 395), 5, 1);
        ruleFault("take 1+4294967297", 7, 1);
        ruleFault("take 1 if 1=123456", 12, 1);
        ruleFault("take 1 if 123456", 10, 1);
        ruleFault("take 1 2", 7, 0);
        ruleFault("take 12345 6", 11, 0);
        ruleFault("take 12x", 7, 0);
        due("letters behind digits", ruleOf(new RueCake(), "take1if1=1or2=2and3=3"), 0);
    }

    /** "WORDS (small letters, as far as these go on) of the GUEST whose TURN it is and a FREE SLICE" */
    private static void words() {
        String[] fine = {"guest", "slice", "kind", "size", "likes", "worth", "has", "rue", "free", "beside", "mine", "turn"};
        for (String word : fine) {
            due(word, ruleOf(new RueCake(), "take " + word), 0);
            ruleFault("take " + word + "x", 5, 0);
            ruleFault("take x" + word, 5, 0);
            ruleFault("take " + word.substring(1), 5, 0);
            ruleFault("take " + word.substring(0, word.length() - 1), 5, 0);
            ruleFault("take " + word + word, 5, 0);
            ruleFault("take " + word.toUpperCase(), 5, 0);
            ruleFault("take " + word + " " + word, 6 + word.length(), 0);
            ruleFault("take " + word + "1", 5 + word.length(), 0);
        }
        String[] wrong = {"cake", "take", "if", "not", "and", "or", "stir", "first", "none", "besides", "abcdefgh", times("a", 395)};
        for (String word : wrong) {
            ruleFault("take " + word, 5, 0);
            feastFault("cake 0 0;" + word.substring(0, Math.min(380, word.length())), 9, word.equals("cake") ? 4 : 0);
        }
        wordsThatGoOn();
        String all = "take 1 if guest=1 and slice=2 and kind=0 and size=2 and likes=1 and worth=2 and has=13 and rue=16"
            + " and free=3 and beside=1 and mine=2 and turn=2";
        RueCake cake = forced(FEAST, all);
        cake.take(1, 0);
        cake.take(1, 1);
        cake.stir(1);
        cake.stir(1);
        cake.turnOne();
        cake.turnOne();
        due("as all words tell", cake.turnOne(), 2);
    }

    /** "as far as these go on": each word of a rule and of a feast with more letters is none */
    private static void wordsThatGoOn() {
        String rule = "take has if not 1=1 and 2=2 or 3=3;take 1";
        String feast = "cake 1 2;slice 0 1;guest 5;likes 0 1 3";
        for (String behind : new String[] {"a", "s", "or", "and", "xxxxx", "xxxxxx", "abcdefghijkl", times("z", 150)}) {
            for (String word : new String[] {"take ", "has ", "if ", "not ", "and ", "or "}) {
                int at = rule.indexOf(word);
                ruleFault(rule.replace(word, word.trim() + behind + " "), at, 0);
                ruleFault(rule.replace(word, behind + word), at, 0);
                ruleFault(rule.replace(word, times(behind, 8).substring(0, 8) + " "), at, 0);
            }
            for (String word : new String[] {"cake ", "slice ", "guest ", "likes "}) {
                int at = feast.indexOf(word);
                feastFault(feast.replace(word, word.trim() + behind + " "), at, 0);
                feastFault(feast.replace(word, behind + word), at, 0);
                feastFault(feast.replace(word, times(behind, 8).substring(0, 8) + " "), at, 0);
            }
        }
    }

    /** Each word by its own worth to guest 1, slice by slice. */
    private static void wordsOfEachSlice() {
        int[] kinds = {0, 1, 0, 2, 1};
        int[] sizes = {4, 3, 2, 6, 1};
        int[] likes = {1, 3, 1, 1, 3};
        for (int slice = 0; slice < 5; slice++) {
            String here = "take 1 if slice=" + slice + " and ";
            takesBy(here + "kind=" + kinds[slice], slice);
            takesBy(here + "size=" + sizes[slice], slice);
            takesBy(here + "likes=" + likes[slice], slice);
            takesBy(here + "worth=" + sizes[slice] * likes[slice], slice);
            takesBy(here + "guest=1 and has=0 and rue=6 and free=5 and beside=0 and mine=0 and turn=0", slice);
        }
    }

    /** "SIGN one of < <= = >= >": below, the same and above, by each */
    private static void signs() {
        String[] signs = {"<", "<=", "=", ">=", ">"};
        boolean[][] hold = {{true, false, false}, {true, true, false}, {false, true, false}, {false, true, true},
            {false, false, true}};
        // of two bytes <= and >= alone are one SIGN
        String bytes = "<=>+-*/%[];A" + (char) 188 + (char) 29;
        for (int one = 0; one < bytes.length(); one++) {
            for (int other = 0; other < bytes.length(); other++) {
                String two = bytes.substring(one, one + 1) + bytes.charAt(other);
                if (!two.equals("<=") && !two.equals(">=")) {
                    // behind the first eight another VALUE is to come
                    ruleFault("take 1 if 1" + two + "1", one < 8 ? 12 : 11, 0);
                }
            }
        }
        ruleFault("take 1 if 1<==1", 13, 0);
        ruleFault("take 1 if 1>==1", 13, 0);
        String least = "32768*32768*32768*32768*8";
        for (int i = 0; i < signs.length; i++) {
            for (int number = 0; number < 3; number++) {
                int taken = hold[i][number] ? 0 : -1;
                takesBy("take 1 if " + number + signs[i] + "1", taken);
                takesBy("take 1 if " + number + "-2 " + signs[i] + " 0-1", taken);
                takesBy("take 1 if not " + number + signs[i] + "1", -1 - taken);
                takesBy("take 1 if 1=1 and " + number + signs[i] + "1 and 1=1", taken);
                takesBy("take 1 if " + number + "*65536*65536" + signs[i] + "65536*65536", taken);
                // the two ends of what 64 bits hold lie farthest apart
                String[] ends = {least, "0", least + "-1"};
                takesBy("take 1 if " + ends[number] + signs[i] + "0", taken);
                if (number != 1) {
                    takesBy("take 1 if " + ends[number] + signs[i] + ends[2 - number], taken);
                }
            }
        }
    }

    /** "SUM: TERM { (+ or -) TERM }. TERM: VALUE { (* or / or %) VALUE }." */
    private static void sumsBind() {
        String[] same = {"1+2*3=7", "1+6/2=4", "9-7%4=6", "2*3+1=7", "6/2+1=4", "7%4-9=0-6", "20-6-4=10", "20-6+4=18",
            "100/5/2=10", "100/5*2=40", "100*2/5=40", "17%10%4=3", "2*9%4=2", "7%4*3=9", "7/4%3=1", "2+3*4-5=9",
            "10-2*3-1=3", "10-12/3/2-1=7", "1+2+3*4*5+6=69", "0-1*2=0-2", "1-2-3=0-4", "2*3%4+5/2-1=3"};
        for (String fact : same) {
            takesBy("take 1 if " + fact, 0);
            takesBy("take 2 if not " + fact + ";take slice", 4);
        }
    }

    /** "TEST: PART { or PART }. PART: FACT { and FACT }. FACT: not FACT | [ TEST ]": all ways to join four */
    private static void testsBind() {
        for (int joins = 0; joins < 8; joins++) {
            for (int facts = 0; facts < 16; facts++) {
                StringBuilder plain = new StringBuilder("take 1 if 0=" + (facts & 1));
                StringBuilder turned = new StringBuilder("take 1 if not 0=" + (1 - (facts & 1)));
                boolean any = false;
                boolean all = (facts & 1) == 0;
                for (int i = 1; i < 4; i++) {
                    boolean holds = (facts >> i & 1) == 0;
                    boolean or = (joins >> i - 1 & 1) != 0;
                    any = any || or && all;
                    all = or ? holds : all && holds;
                    plain.append(or ? " or 0=" : " and 0=").append(holds ? 0 : 1);
                    turned.append(or ? " or [not 0=" : " and [not 0=").append(holds ? 1 : 0).append(']');
                }
                takesBy(plain.toString(), any || all ? 0 : -1);
                takesBy(turned.toString(), any || all ? 0 : -1);
            }
        }
        takesBy("take 1 if not 1=1 or 1=1", 0);
        takesBy("take 1 if not [1=1 or 1=1]", -1);
        takesBy("take 1 if not 1=0 and 1=0", -1);
        takesBy("take 1 if not [1=0 and 1=0]", 0);
        takesBy("take 1 if [1=1 or 1=1] and 1=0", -1);
        takesBy("take 1 if 1=0 and [1=1 or 1=1]", -1);
    }

    /** "Blanks (32) stand between as one likes" */
    private static void blanks() {
        due("none", ruleOf(new RueCake(), "take1+size*2if[size<3or not[kind=2]]and mine>=0;take2"), 0);
        due("many", ruleOf(new RueCake(),
            "  take  1 +  size  *  2  if  [  size  <  3  or  not  [  kind  =  2  ]  ]  and  mine  >=  0  ;  take  2  "), 0);
        due("none in a feast", feastOf(new RueCake(), "cake1 2;slice0 3;guest4;likes0 0 1"), 1);
        due("many in a feast", feastOf(new RueCake(), "  cake  1  2  ;  slice  0  3  ;  guest  4  ;  likes  0  0  1  "), 1);
        ruleFault("ta ke 1", 0, 0);
        ruleFault("take 1 i f 1=1", 7, 0);
        ruleFault("take 1 if 1 < = 1", 14, 0);
        ruleFault("take 1 if 1 > = 1", 14, 0);
        ruleFault("take 1\t", 6, 0);
        feastFault("cake 0\t0", 6, 0);
        feastFault("cake\n0 0", 4, 0);
        feastFault("cake 1;", 6, 0);
        feastFault("cake 12", 5, 1);
        feastFault("cake1", 5, 0);
    }

    /** "/ is towards 0, % its rest, both 0 by 0" */
    private static void divisions() {
        String least = "32768*32768*32768*32768*8";
        takesBy("take 1 if 7/2=3 and 6/2=3 and 1/2=0 and 0/5=0", 0);
        takesBy("take 1 if 7%2=1 and 6%2=0 and 1%2=1 and 0%5=0", 0);
        takesBy("take 1 if 7/0=0 and 7%0=0 and 0/0=0 and 0%0=0", 0);
        takesBy("take 1 if 7/slice=0 and 7%slice=0", 0);
        takesBy("take 1 if 7/0+5%0*3=0", 0);
        takesBy("take 1 if 7/0/0%0=0", 0);
        // a number below 0 can be divided only behind going round: the least one by 3 is -3074457345618258602, rest -2
        takesBy("take 1 if " + least + "<0", 0);
        takesBy("take 1 if " + least + "/3*3<0", 0);
        takesBy("take 1 if " + least + "%3=0-2", 0);
        takesBy("take 1 if " + least + "-" + least + "/3*3=0-2", 0);
        takesBy("take 1 if " + least + "-" + least + "/5*5=0-3", 0);
        takesBy("take 1 if " + least + "%8=0", 0);
        takesBy("take 1 if " + least + "/0=0", 0);
        takesBy("take 1 if " + least + "%0=0", 0);
        takesBy("take 1 if " + least + "/1=" + least, 0);
    }

    /** "all goes round in 64 bits" */
    private static void sixtyFourBits() {
        String least = "32768*32768*32768*32768*8";
        takesBy("take 65536*32768", 0);
        takesBy("take 65536*65536", 0);
        takesBy("take " + least, -1);
        takesBy("take " + least + "-1", 0);
        takesBy("take " + least + "-1+slice", 0);
        takesBy("take " + least + "+slice", -1);
        takesBy("take 0-" + least + "-1", 0);
        takesBy("take 0-" + least, -1);
        takesBy("take 65536*65536*65536*65536", -1);
        takesBy("take 65536*65536*65536*65536+slice", 4);
        takesBy("take 1 if " + least + "-1>" + least, 0);
        takesBy("take 1 if " + least + "-1>65536*65536", 0);
        takesBy("take 65536*65536-slice", 0);
        takesBy("take 65536*65536+slice", 4);
    }

    /** "[ and not lie within one another 10 deep at most"; "2 too deep (at the sign that opens, or the word not)" */
    private static void tenDeep() {
        for (int nots = 0; nots <= 11; nots++) {
            int brackets = 10 - nots;
            String rule = "take 1 if " + times("not ", nots) + times("[", Math.max(0, brackets)) + "1=1";
            if (nots <= 10) {
                takesBy(rule + times("]", brackets), nots % 2 == 0 ? 0 : -1);
                ruleFault("take 1 if " + times("not ", nots) + times("[", brackets) + "[1=1", 20 + 3 * nots, 2);
                ruleFault("take 1 if " + times("not ", nots) + times("[", brackets) + "not 1=1", 20 + 3 * nots, 2);
                ruleFault("take 1 if " + times("[", brackets) + times("not ", nots) + " [1=1", 21 + 3 * nots, 2);
            } else {
                ruleFault(rule, 50, 2);
            }
        }
        takesBy("take 1 if " + times("not[", 5) + "1=0" + times("]", 5), 0);
        ruleFault("take 1 if " + times("not[", 5) + "1=0 or not 1=0", 10 + 20 + 7, 2);
        ruleFault("take 1 if " + times("[", 10) + "1=1 and [", 28, 2);
        takesBy("take 1 if " + times("[", 10) + "1=1" + times("]", 10) + " and " + times("not ", 10) + "1=1", 0);
        takesBy("take 1 if " + times("[", 10) + "1=0" + times("]", 10) + ";take 1 if " + times("[", 10) + "1=1" + times("]", 10), 0);
        takesBy("take 1 if [" + times("not ", 9) + "1=0 and " + times("[", 9) + "1=1" + times("]", 10), 0);
        ruleFault("take 1 if " + times("[", 50), 20, 2);
        ruleFault("take 1 if " + times("not ", 90), 50, 2);
    }

    /** "at most 60 VALUES (of SUMS) and FACTS made of a SIGN, together"; "3 one VALUE or FACT too many (..)" */
    private static void sixtyParts() {
        takesBy("take 1" + times("-1", 58), -1);
        takesBy("take 60" + times("-1", 59), 0);
        takesBy("take 59" + times("-1", 59), -1);
        ruleFault("take 1" + times("+1", 60), 125, 3);
        ruleFault("take 1" + times(" + 1", 60), 5 + 240, 3);
        takesBy("take 1" + times("+1", 56) + " if 1=1", 0);
        ruleFault("take 1" + times("+1", 57) + " if 1=1", 6 + 114 + 6, 3);
        ruleFault("take 1" + times("+1", 58) + " if 1=1", 6 + 116 + 5, 3);
        ruleFault("take 1" + times("+1", 58) + " if 1 <= 1", 6 + 116 + 6, 3);
        ruleFault("take 1" + times("+1", 59) + " if 1=1", 6 + 118 + 4, 3);
        takesBy("take 1+1+1 if 1=1" + times(" and 1=1", 18), 0);
        ruleFault("take 1+1+1+1 if 1=1" + times(" and 1=1", 18), 19 + 144 - 1, 3);
        ruleFault("take 1 if 1=1" + times(" or 1=1", 19), 13 + 126 + 6, 3);
        ruleFault("take 1+1 if 1=1" + times(" or 1=1", 19), 15 + 126 + 5, 3);
        ruleFault("take 1+1+1 if 1=1" + times(" or 1=1", 19), 17 + 126 + 4, 3);
        takesBy(times("take 1-1-1-1-1;", 11) + "take 1-1-1-1-1", -1);
        ruleFault(times("take 1+1+1+1+1;", 11) + "take 1+1+1+1+1+1", 165 + 15, 3);
        takesBy("take 1" + times("+1", 56) + " if not [[not 1=1]]", 0);
        RueCake cake = new RueCake();
        due("sixty", ruleOf(cake, "take 1" + times("+1", 59)), 0);
        due("sixty once more", ruleOf(cake, "take 1" + times("+1", 59)), 1);
        due("too many", ruleOf(cake, "take 1" + times("+1", 60)), fault(125, 3));
        due("sixty behind that", ruleOf(cake, "take 1" + times("+1", 59)), 2);
    }

    /** All six rules may be as long as a rule can be, whatever was refused between. */
    private static void sixLongRules() {
        RueCake cake = feasting(FEAST);
        for (int number = 0; number < 6; number++) {
            for (int i = 0; i < 5; i++) {
                due("too long", ruleOf(cake, "take 1" + times("+1", 60)), fault(125, 3));
            }
            String sum = "take 58" + times("-1", 56);
            due("rule " + number, ruleOf(cake, sum + " if slice=" + (number + 2) % 5), number);
        }
        for (int number = 0; number < 6; number++) {
            cake.force(number);
            due("taken by rule " + number, cake.turnOne(), (number + 2) % 5);
            cake.undo();
        }
    }

    /** "0 without": where no clause of a rule holds, none of one that was told before it does */
    private static void rulesStandAlone() {
        for (int before = 1; before <= 12; before++) {
            for (int clauses = 1; clauses <= 12; clauses++) {
                RueCake cake = feasting(FEAST);
                ruleOf(cake, times("take 1;", before - 1) + "take 1 if 1=1" + times(";take 1", 12 - before));
                due("the rule of " + clauses, ruleOf(cake, times("take 0 if 1=2;", clauses - 1) + "take 9 if 1=2"), 1);
                cake.force(1);
                due("by it nothing is taken", cake.turnOne(), -1);
                cake.force(0);
                due("by the other one guest 0 takes slice 0", cake.ahead(0, 1, 0), 0);
            }
        }
    }

    private static boolean isDigit(int sign) {
        return sign >= '0' && sign <= '9';
    }

    private static boolean isLetter(int sign) {
        return sign >= 'a' && sign <= 'z';
    }

    private static boolean isOneOf(int sign, String signs) {
        return signs.indexOf(sign) >= 0;
    }

    /** "0 a byte or WORD that can't stand there": every byte, at places of a feast */
    private static void everyByteOfAFeast() {
        for (int sign = 0; sign < 256; sign++) {
            String one = "" + (char) sign;
            int answer = isOneOf(sign, " ") ? 0 : isOneOf(sign, ";") ? fault(9, 0) : isDigit(sign) ? fault(7, 1) : fault(8, 0);
            due("behind a feast byte " + sign, feastOf(new RueCake(), "cake 1 2" + one), answer);
            answer = isOneOf(sign, " ") ? 0 : fault(0, 0);
            due("ahead of a feast byte " + sign, feastOf(new RueCake(), one + "cake 1 2"), answer);
            // "cake01 2" has a number of two digits that is as told, "cake11 2" one that is not
            answer = isOneOf(sign, " 0") ? 0 : isDigit(sign) ? fault(4, 1) : isLetter(sign) ? fault(0, 0) : fault(4, 0);
            due("behind cake byte " + sign, feastOf(new RueCake(), "cake" + one + "1 2"), answer);
        }
    }

    /** "0 a byte or WORD that can't stand there": every byte, at places of a rule */
    private static void everyByteOfARule() {
        for (int sign = 0; sign < 256; sign++) {
            String one = "" + (char) sign;
            boolean blank = sign == ' ';
            boolean reckons = isOneOf(sign, "+-*/%");
            int answer = blank ? 0 : reckons || sign == ';' ? fault(8, 0) : fault(7, 0);
            due("behind a sum byte " + sign, ruleOf(new RueCake(), "take 1 " + one), answer);
            answer = isDigit(sign) ? 0 : blank ? fault(6, 0) : fault(5, 0);
            due("as a value byte " + sign, ruleOf(new RueCake(), "take " + one), answer);
            answer = isDigit(sign) || sign == '[' || blank ? fault(11, 0) : fault(10, 0);
            due("as a fact byte " + sign, ruleOf(new RueCake(), "take 1 if " + one), answer);
            answer = isOneOf(sign, "<=>") ? 0 : reckons ? fault(15, 0) : blank ? fault(14, 0) : fault(12, 0);
            due("as a sign byte " + sign, ruleOf(new RueCake(), "take 1 if 1 " + one + " 1"), answer);
            answer = blank ? 0 : reckons || sign == ';' ? fault(15, 0) : fault(14, 0);
            due("behind a fact byte " + sign, ruleOf(new RueCake(), "take 1 if 1=1 " + one), answer);
            answer = sign == ']' ? 0 : reckons ? fault(16, 0) : blank ? fault(16, 0) : fault(15, 0);
            due("closing byte " + sign, ruleOf(new RueCake(), "take 1 if [1=1 " + one), answer);
        }
    }

    /** "or the end (behind the last byte)": a text broken off at each of its places */
    private static void ends() {
        String feast = "cake 1 2;guest 5;likes 0 1 3";
        int[] places = {0, 0, 0, 0, 4, 5, 6, 7, -1, 9, 9, 9, 9, 9, 14, 15, -1, 17, 17, 17, 17, 17, 22, 23, 24, 25, 26, 27, -1};
        due("a place each", places.length, feast.length() + 1);
        for (int length = 0; length < places.length; length++) {
            int answer = places[length] < 0 ? 0 : fault(places[length], 0);
            due("feast of " + length, feastOf(new RueCake(), feast.substring(0, length)), answer);
        }
        String rule = "take 7 if [not kind<=2 or 1=1];take 1";
        int[] cuts = {0, 0, 0, 0, 4, 5, -1, -1, 7, 9, 10, 11, 11, 11, 14, 15, 15, 15, 15, 19, 20, 21, 22, 23, 23, 25,
            26, 27, 28, 29, -1, 31, 31, 31, 31, 35, 36, -1};
        due("a place of each", cuts.length, rule.length() + 1);
        for (int length = 0; length < cuts.length; length++) {
            int answer = cuts[length] < 0 ? 0 : fault(cuts[length], 0);
            due("rule of " + length, ruleOf(new RueCake(), rule.substring(0, length)), answer);
        }
        feastFault(times(" ", 400), 400, 0);
        ruleFault(times(" ", 400), 400, 0);
    }

    /** "FAULTS, the first along the text" */
    private static void firstFault() {
        feastFault("cake 5 10;cake;slice 9 9;x", 5, 1);
        feastFault("cake 0 10;cake;slice 9 9;x", 7, 1);
        feastFault("cake 0 1;cake;slice 9 9;x", 9, 4);
        feastFault("cake 0 1;slice 9 0;x", 15, 1);
        feastFault("cake 0 1;slice 3 0;x", 17, 1);
        feastFault("cake 0 1;slice 3 1;x;123456", 19, 0);
        feastFault("slice 123456", 0, 4);
        ruleFault("take 123456 123456", 5, 1);
        ruleFault("take x+123456", 5, 0);
        ruleFault("take 1 if " + times("[", 11) + times("1+", 60) + "1", 20, 2);
        ruleFault("take 1" + times("+1", 60) + " if " + times("[", 11), 125, 3);
        ruleFault("take x" + times(";take 1", 12), 5, 0);
        ruleFault("take 1" + times(";take 1", 12) + ";take x", 84, 4);
    }

    /** "Of one place the least" */
    private static void leastFault() {
        ruleFault("take 1" + times("+1", 59) + "+x", 125, 0);
        ruleFault("take 1" + times("+1", 59) + "+[", 125, 0);
        ruleFault("take 1" + times("+1", 59) + "+", 125, 0);
        ruleFault("take 1" + times("+1", 59) + "+123456", 125, 1);
        ruleFault("take 1" + times("+1", 58) + " if 1 1", 6 + 116 + 6, 0);
        ruleFault("take 1" + times("+1", 58) + " if 1", 6 + 116 + 5, 0);
        ruleFault("take 1" + times(";take 1", 11) + ";cake 1", 84, 0);
        ruleFault("take 1 if " + times("[", 10) + "]", 20, 0);
        ruleFault("take 1 if " + times("[", 10) + "nots 1=1", 20, 0);
        feastFault("take 0 0", 0, 0);
        feastFault("0", 0, 0);
        feastFault("cake 0 0" + times(";slice 1 2", 10) + ";slices 1 2", 109, 0);
        feastFault("cake 0 0" + times(";guest 7", 5) + ";guess 7", 49, 0);
        feastFault("cake x", 5, 0);
        ruleFault("take 1 123456", 7, 0);
        feastFault("cake 0 0 123456", 9, 0);
    }
}
