/** The promises one by one, with answers worked out by hand from the document. */
public final class PromiseTest extends Checks {
    public static void main(String[] args) {
        newObject();
        tape();
        feasts();
        feastFaults();
        rules();
        ruleFaults();
        deepAndLongRules();
        sums();
        words();
        force();
        slicesAndGuests();
        turns();
        lastTurn();
        takes();
        lays();
        swaps();
        stirs();
        undoes();
        aheads();
        lefts();
        envies();
        needs();
        twos();
        rounds();
        fairs();
        begins();
        leaves();
        kepts();
        games();
        pences();
        notes();
        ruled();
        looks();
        seeds();
        flames();
        counts();
        images();
        tellAndEnd();
    }

    private static void newObject() {
        RueCake cake = new RueCake();
        due("NONE", RueCake.NONE, -1);
        int[] counts = {0, 0, 0, 0, 0, -1, 0, -1, 0, 0, 0, 0, 0, 0};
        for (int what = 0; what < counts.length; what++) {
            due("new count " + what, cake.count(what), counts[what]);
        }
        due("new slice", cake.slice(0, 0), -2);
        due("new guest", cake.guest(0, 0), -1);
        due("new turnOne", cake.turnOne(), -2);
        due("new take", cake.take(0, 0), -1);
        due("new lay", cake.lay(0), -1);
        due("new swap", cake.swap(0, 1), -1);
        due("new stir", cake.stir(0), -1);
        due("new undo", cake.undo(), -1);
        due("new ahead", cake.ahead(0, 0, 2), -2);
        due("new left", cake.left(), -1);
        due("new envy", cake.envy(), -1);
        due("new needs", cake.needs(0, 0), -1);
        due("new twos", cake.twos(0), -1);
        due("new round", cake.round(-1), -3);
        due("new fair", cake.fair(-1), -3);
        due("new begin", cake.begin(0, 1, 0), -1);
        due("new leave", cake.leave(1, 0), -2);
        due("new kept", cake.kept(1, 0), -1);
        due("new game", cake.game(0, 1, 1, 0), -1000);
        due("new pence", cake.pence(1, 0), -1);
        due("new note", cake.note(0, 0, 0), -2);
        due("new note none", cake.note(-1, 0, 0), 0);
        due("new ruled", cake.ruled(0), -3);
        due("new look", cake.look(0, 0), -1);
        due("new flames", cake.flames(1, 1, 0, 0), -1);
        due("new force", cake.force(0), -2);
        due("new force none", cake.force(-1), -1);
        due("new back", cake.back(0), -1);
    }

    private static void tape() {
        RueCake cake = new RueCake();
        due("end 0 of nothing", cake.end(0), 0);
        due("end 1 of nothing", cake.end(1), -1);
        for (int n = 20; n <= 400; n += 20) {
            due("feed", cake.feed(0x63616b65, 0x20312032, 0, -1, n), n);
        }
        due("feed too much", cake.feed(1, 2, 3, 4, 5), -1);
        due("tape stays", cake.count(13), 400);
        due("end 381", cake.end(381), 381);
        due("feed to 401", cake.feed(1, 2, 3, 4, 5), -1);
        due("end 380", cake.end(380), 380);
        due("feed to 400", cake.feed(1, 2, 3, 4, 5), 400);
        due("end 401", cake.end(401), -1);
        due("end below 0", cake.end(-1), -1);
        due("end far below 0", cake.end(Integer.MIN_VALUE), -1);
        due("end 400", cake.end(400), 400);
        due("end 8", cake.end(8), 8);
        due("tape has 8", cake.count(13), 8);
        due("highest byte first", cake.feast(), 0);
        due("FIRST told", cake.count(0), 1);
        due("STIR told", cake.count(1), 2);
        due("tape is empty", cake.count(13), 0);
    }

    private static void feasts() {
        RueCake cake = feasting(FEAST);
        due("slices", cake.count(2), 5);
        due("guests", cake.count(3), 2);
        due("FIRST", cake.count(0), 1);
        due("STIR", cake.count(1), 5);
        due("all free", cake.count(8), 31);
        ruleOf(cake, "take 1");
        cake.force(0);
        cake.seed(77);
        cake.turnOne();
        cake.stir(0);
        cake.note(1, 1, 1);
        due("a faulty feast", feastOf(cake, "cake 0 0;slice 0 0"), fault(17, 1));
        due("tape is empty behind a fault", cake.count(13), 0);
        due("TURN stays", cake.count(6), 1);
        due("NOTES stay", cake.count(10), 1);
        due("ACTS stay", cake.count(11), 2);
        due("SLICES stay", cake.count(2), 5);
        due("another feast", feastOf(cake, "  cake  4 0 ;slice3 9;guest0 ; slice 0 1  "), 2);
        due("TURN anew", cake.count(6), 0);
        due("no NOTES", cake.count(10), 0);
        due("nothing to be UNDONE", cake.undo(), -1);
        due("the RULE IN FORCE stays", cake.count(5), 0);
        due("x stays", cake.count(12), 77);
        due("rue anew", cake.guest(0, 0), 0);
        due("FIRST beyond the guests", cake.count(7), 0);
        due("the last likes told", feastOf(cake, "cake 0 0;guest 00099;likes 0 3 4;likes 0 3 7"), 0);
        due("likes 3", cake.guest(0, 6), 7);
        due("likes 0", cake.guest(0, 3), 1);
        due("rue 99", cake.guest(0, 0), 99);
        String full = "cake 0 0" + times(";slice 1 2", 10) + times(";guest 3", 5);
        due("ten slices, five guests", feastOf(cake, full), 10);
        due("ten", cake.count(2), 10);
        due("five", cake.count(3), 5);
    }

    private static void feastFaults() {
        feastFault("", 0, 0);
        feastFault("   ", 3, 0);
        feastFault("cake", 4, 0);
        feastFault("cake 5 0", 5, 1);
        feastFault("cake 0 10", 7, 1);
        feastFault("cake 0", 6, 0);
        feastFault("cake 0 000000", 7, 1);
        feastFault("cake 00", 7, 0);
        feastFault("slice 0 1", 0, 4);
        feastFault(" guest 0", 1, 4);
        feastFault("likes", 0, 4);
        feastFault("take 1", 0, 0);
        feastFault("cakes 0 0", 0, 0);
        feastFault("Cake 0 0", 0, 0);
        feastFault("cake 0 0;cake 0 0", 9, 4);
        feastFault("cake 0 0; cake", 10, 4);
        feastFault("cake 0 0;slice 4 1", 15, 1);
        feastFault("cake 0 0;slice 0 0", 17, 1);
        feastFault("cake 0 0;slice 0 10", 17, 1);
        feastFault("cake 0 0;slice -1 1", 15, 0);
        feastFault("cake 0 0;guest 100", 15, 1);
        feastFault("cake 0 0;likes 0 0 0", 15, 1);
        feastFault("cake 0 0;likes 0 0 0;guest 1", 15, 1);
        feastFault("cake 0 0;guest 0;likes 1 0 0", 23, 1);
        feastFault("cake 0 0;guest 0;likes 0 4 0", 25, 1);
        feastFault("cake 0 0;guest 0;likes 0 0 10", 27, 1);
        feastFault("cake 0 0;guest 0;likes 0 0", 26, 0);
        feastFault("cake 0 0;", 9, 0);
        feastFault("cake 0 0;  ", 11, 0);
        feastFault("cake 0 0 0", 9, 0);
        feastFault("cake 0 0;;", 9, 0);
        feastFault("cake 0 0\u0000", 8, 0);
        feastFault("cake 0 0\u00e9", 8, 0);
        feastFault("cake 0 0;slice 0 1;guest x", 25, 0);
        feastFault("cake 0 0" + times(";slice 0 1", 10) + "; slice", 8 + 100 + 2, 4);
        feastFault(times(";", 400), 0, 0);
        feastFault("cake 0 0" + times(" ", 391) + ";", 400, 0);
        due("400 bytes", feastOf(new RueCake(), times(" ", 392) + "cake 0 0"), 0);
        feastFault("cake 0 0" + times(";guest 0", 5) + ";guest 0", 8 + 40 + 1, 4);
        feastFault("cake 0 0" + times(";guest 0", 5) + ";guests 0", 8 + 40 + 1, 0);
    }

    private static void rules() {
        RueCake cake = new RueCake();
        due("rule 0", ruleOf(cake, "take 1"), 0);
        due("a fault", ruleOf(cake, "take"), fault(4, 0));
        due("tape is empty behind a fault", cake.count(13), 0);
        due("still one", cake.count(4), 1);
        String twelve = "take 1" + times(";take 2 if 1=1", 11);
        due("rule 1", ruleOf(cake, twelve), 1);
        due("tape is empty", cake.count(13), 0);
        for (int number = 2; number < 6; number++) {
            due("one more rule", ruleOf(cake, " take size*likes if not[ kind=1 or mine>=2 ] ;take 0"), number);
        }
        due("a seventh", ruleOf(cake, "take 1"), -1);
        due("the tape stays", cake.count(13), 6);
        due("six", cake.count(4), 6);
        due("a seventh with a fault", ruleOf(cake, "take"), -1);
    }

    private static void ruleFaults() {
        ruleFault("", 0, 0);
        ruleFault("take", 4, 0);
        ruleFault("take  ", 6, 0);
        ruleFault("take 1 if", 9, 0);
        ruleFault("takes 1", 0, 0);
        ruleFault("cake 0 0", 0, 0);
        ruleFault("take x", 5, 0);
        ruleFault("take sizes", 5, 0);
        ruleFault("take if", 5, 0);
        ruleFault("take take", 5, 0);
        ruleFault("take cake", 5, 0);
        ruleFault("take 1;", 7, 0);
        ruleFault("take 1 take 2", 7, 0);
        ruleFault("take 1 if mine = 1]", 18, 0);
        ruleFault("take 1 if [mine = 1", 19, 0);
        ruleFault("take 1 if [mine] = 1", 15, 0);
        ruleFault("take 5 %", 8, 0);
        ruleFault("take -5", 5, 0);
        ruleFault("take 1 + + 1", 9, 0);
        ruleFault("take 1 1", 7, 0);
        ruleFault("take 123456", 5, 1);
        ruleFault("take 1 123456", 7, 0);
        ruleFault("take 1 if size", 14, 0);
        ruleFault("take 1 if size = 1 = 1", 19, 0);
        ruleFault("take 1 if size < = 1", 17, 0);
        ruleFault("take 1 if size =< 1", 16, 0);
        ruleFault("take 1 if size => 1", 16, 0);
        ruleFault("take 1 < 2", 7, 0);
        ruleFault("take 1 if size = 1 and", 22, 0);
        ruleFault("take 1 if size = 1 or or", 22, 0);
        ruleFault("take 1 if size = 1 not size = 2", 19, 0);
        ruleFault("take 1 if not", 13, 0);
        ruleFault("take 1 if size = not", 17, 0);
        ruleFault("take (1)", 5, 0);
        ruleFault("take 1 if size = 1 if size = 2", 19, 0);
        ruleFault("take 1" + times(";take 1", 11) + ";take 1", 6 + 77 + 1, 4);
        ruleFault("take 1" + times(";take 1", 11) + ";taken", 6 + 77 + 1, 0);
        ruleFault("take 1" + times(";take 1", 11) + ";", 6 + 77 + 1, 0);
    }

    private static void deepAndLongRules() {
        RueCake cake = new RueCake();
        due("ten deep", ruleOf(cake, "take 1 if " + times("[", 10) + "1=1" + times("]", 10)), 0);
        for (int i = 0; i < 8; i++) {
            due("a fault behind many values", ruleOf(cake, "take 1" + times("+1", 59) + "+"), fault(6 + 119, 0));
        }
        due("ten nots", ruleOf(cake, "take 1 if " + times("not ", 10) + "1=1"), 1);
        due("ten of both, side by side", ruleOf(cake,
            "take 1 if " + times("not[", 5) + "1=1" + times("]", 5) + " or " + times("[not ", 5) + "1=1" + times("]", 5)), 2);
        ruleFault("take 1 if " + times("[", 11) + "1=1" + times("]", 11), 20, 2);
        ruleFault("take 1 if " + times("not ", 11) + "1=1", 50, 2);
        ruleFault("take 1 if " + times("not[", 5) + "not 1=1" + times("]", 5), 30, 2);
        ruleFault("take 1 if " + times("not[", 5) + "1=1 and [1=1]" + times("]", 5), 38, 2);
        due("sixty values", ruleOf(cake, "take 1" + times("+1", 59)), 3);
        feastOf(cake, FEAST);
        cake.force(3);
        due("sixty is above 0", cake.turnOne(), 0);
        due("sixty of both", ruleOf(cake, "take 1" + times("+1", 56) + " if 1=1"), 4);
        ruleFault("take 1" + times("+1", 60), 5 + 120, 3);
        ruleFault("take 1" + times("+1", 59) + "+x", 5 + 120, 0);
        ruleFault("take 1" + times("+1", 59) + "+123456", 5 + 120, 1);
        ruleFault("take 1" + times("+1", 58) + " if 1=1", 6 + 116 + 5, 3);
        ruleFault("take 1" + times("+1", 57) + " if 1=1", 6 + 114 + 6, 3);
        ruleFault("take 1" + times("+1", 59) + " if size", 6 + 118 + 4, 3);
        ruleFault("take 1" + times("+1", 59) + ";take 2", 6 + 118 + 6, 3);
    }

    private static void sums() {
        takesBy("take 10-size", 4);
        takesBy("take 2+3*4-14", -1);
        takesBy("take 2+3*4-13", 0);
        takesBy("take 20-4-3-12", 0);
        takesBy("take 20-4-3-13", -1);
        takesBy("take 100/7/7-1", 0);
        takesBy("take 100/7*7-97", 0);
        takesBy("take 100/7*7-98", -1);
        takesBy("take 7/0+1", 0);
        takesBy("take 7/0", -1);
        takesBy("take 7%0", -1);
        takesBy("take 17%5*slice", 4);
        takesBy("take 0-7/2+slice", 4);
        takesBy("take 4-slice if 0-7/2=0-3", 0);
        takesBy("take slice if 0-7%4=0-3", 4);
        takesBy("take 99999*99999*99999*99999 + 4*0", 0);
        takesBy("take 1 if 99999*99999*99999*99999*99999 < 0", 0);
        takesBy("take 2 if slice=3;take 1", 3);
        takesBy("take 0 if slice=0;take 5-slice", 1);
        takesBy("take 1 if slice=3;take 1 if slice=2", 2);
        takesBy("take 1 if slice>7", -1);
        takesBy("take slice if slice<3", 2);
        takesBy("take slice if slice<=3", 3);
        takesBy("take 9-slice if slice>=2", 2);
        takesBy("take 9-slice if slice>2", 3);
        takesBy("take 1 if not slice=0", 1);
        takesBy("take 1 if not not slice=2", 2);
        takesBy("take 1 if not [slice=0 or slice=1]", 2);
        takesBy("take 1 if slice=3 or slice=2 and size=6", 3);
        takesBy("take 1 if [slice=3 or slice=2] and size=2", 2);
        takesBy("take 1 if size=6 and slice=2 or slice=4", 4);
        takesBy("take 1 if not slice=0 and slice<2", 1);
        takesBy("take 1 if 1=1 or 1=0 and 1=0", 0);
    }

    private static void words() {
        takesBy("take guest", 0);
        takesBy("take slice", 4);
        takesBy("take kind", 3);
        takesBy("take size", 3);
        takesBy("take likes", 1);
        takesBy("take worth", 1);
        takesBy("take 1 if rue=6 and free=5 and has=0 and mine=0 and turn=0 and beside=0", 0);
        RueCake cake = ruling(FEAST, "take beside*100+slice if mine=1 and has=4;take 1 if slice=0",
            "take slice if turn=7 and free=2 and mine=2 and has=12;take beside");
        cake.force(0);
        cake.take(1, 0);
        due("beside over the ring's end", cake.turnOne(), 4);
        due("has is 7", cake.guest(1, 1), 7);
        cake = ruling("cake 0 0;slice 0 1;slice 0 2;guest 50", "take 1 if beside=2");
        cake.take(0, 1);
        cake.force(0);
        due("of a ring of two twice", cake.turnOne(), 0);
        cake = ruling("cake 0 0;slice 0 1;guest 50", "take 1 if beside=0");
        cake.force(0);
        due("of a ring of one it itself", cake.turnOne(), 0);
        cake = ruling("cake 0 0;slice 0 1;slice 0 1;slice 0 1;guest 50", "take slice if turn=2 and mine=0 and rue=50");
        cake.force(0);
        due("turn 0", cake.turnOne(), -1);
        due("turn 1", cake.turnOne(), -1);
        due("turn 2", cake.turnOne(), 2);
    }

    private static void force() {
        RueCake cake = ruling(FEAST, "take slice", "take 1");
        due("force 1", cake.force(1), -1);
        due("force 0", cake.force(0), 1);
        due("force 2", cake.force(2), -2);
        due("force -2", cake.force(-2), -2);
        due("in force", cake.count(5), 0);
        due("by rule 0", cake.turnOne(), 4);
        due("force none", cake.force(-1), 0);
        due("none in force", cake.count(5), -1);
        due("without a rule", cake.turnOne(), 0);
    }

    private static void slicesAndGuests() {
        RueCake cake = feasting(FEAST);
        due("kind", cake.slice(3, 0), 2);
        due("size", cake.slice(3, 1), 6);
        due("free", cake.slice(3, 2), -1);
        cake.take(0, 3);
        due("whose", cake.slice(3, 2), 0);
        due("no slice 5", cake.slice(5, 0), -2);
        due("no slice -1", cake.slice(-1, 0), -2);
        due("what 3", cake.slice(0, 3), -2);
        due("what -1", cake.slice(0, -1), -2);
        cake.take(0, 0);
        due("rue", cake.guest(0, 0), 10);
        due("worth", cake.guest(0, 1), 8);
        due("bits", cake.guest(0, 2), 9);
        due("likes 0", cake.guest(0, 3), 2);
        due("likes 1", cake.guest(0, 4), 1);
        due("likes 2", cake.guest(0, 5), 0);
        due("likes 3 without", cake.guest(0, 6), 1);
        due("likes 1 of guest 1", cake.guest(1, 4), 3);
        due("what 7", cake.guest(0, 7), -1);
        due("what -1 of a guest", cake.guest(0, -1), -1);
        due("no guest 2", cake.guest(2, 0), -1);
        due("no guest -1", cake.guest(-1, 2), -1);
    }

    private static void turns() {
        RueCake cake = feasting(FEAST);
        int[] taken = {1, 0, -1, 2, -1, -1};
        for (int turn = 0; turn < taken.length; turn++) {
            due("whose turn " + turn, cake.count(7), (1 + turn) % 2);
            due("turn " + turn, cake.turnOne(), taken[turn]);
            due("TURN", cake.count(6), turn + 1);
        }
        due("who has what", owners(cake), 1099);
        cake = feasting("cake 0 3;slice 0 5;slice 0 5");
        due("without guests", cake.turnOne(), -1);
        due("TURN is 1 more", cake.count(6), 1);
        due("that can be undone", cake.undo(), 0);
        due("TURN is 0", cake.count(6), 0);
        cake = feasting("cake 0 0;slice 0 5;slice 1 5;guest 5;likes 0 0 0;likes 0 1 0");
        due("worth 0 is not taken", cake.turnOne(), -1);
        cake = feasting("cake 0 0;slice 0 5;slice 1 5;guest 0");
        due("who rues 0 takes nothing", cake.turnOne(), -1);
        cake = feasting("cake 4 0;slice 0 5;slice 1 5;guest 7;guest 8;guest 9");
        due("FIRST 4 of three", cake.count(7), 1);
        due("the least of alike", cake.turnOne(), 0);
        due("whose", cake.slice(0, 2), 1);
    }

    private static void lastTurn() {
        // nothing is promised of an object behind its 512th call; this one is held to it all the same
        RueCake cake = ruling("cake 0 0;slice 0 5;guest 1", "take turn-998");
        cake.force(0);
        for (int turn = 0; turn < 999; turn++) {
            cake.turnOne();
        }
        due("TURN 999", cake.count(6), 999);
        due("no turn by hand at 999", cake.turnOne(), -2);
        due("still 999", cake.count(6), 999);
        due("asked turns go on", cake.ahead(0, 1, 0), 0);
        due("left beyond", cake.left(), 1000);
    }

    private static void takes() {
        RueCake cake = feasting(FEAST);
        due("take", cake.take(0, 0), 8);
        due("take more", cake.take(0, 1), 11);
        due("worth 0 by hand", cake.take(0, 3), 11);
        due("not free", cake.take(1, 0), -1);
        due("not free for whose it is", cake.take(0, 0), -1);
        due("no guest", cake.take(2, 2), -1);
        due("no guest -1", cake.take(-1, 2), -1);
        due("no slice", cake.take(0, 5), -1);
        due("no slice -1", cake.take(0, -1), -1);
        due("acts", cake.count(11), 3);
        due("owners", owners(cake), 909);
    }

    private static void lays() {
        RueCake cake = feasting(FEAST);
        cake.take(1, 2);
        due("lay", cake.lay(2), 1);
        due("free again", cake.slice(2, 2), -1);
        due("lay what is free", cake.lay(2), -1);
        due("lay no slice", cake.lay(5), -1);
        due("lay no slice -1", cake.lay(-1), -1);
        due("acts", cake.count(11), 2);
    }

    private static void swaps() {
        RueCake cake = feasting(FEAST);
        cake.take(0, 0);
        cake.take(0, 1);
        cake.take(1, 2);
        due("swap", cake.swap(0, 2), 1);
        due("0 has 2", cake.slice(2, 2), 0);
        due("1 has 0", cake.slice(0, 2), 1);
        due("back again, told the other way", cake.swap(2, 0), 1);
        due("1 has 2", cake.slice(2, 2), 1);
        due("of one guest", cake.swap(0, 1), -1);
        due("with itself", cake.swap(2, 2), -1);
        due("with a free one", cake.swap(0, 3), -1);
        due("a free one", cake.swap(3, 0), -1);
        due("two free ones", cake.swap(3, 4), -1);
        due("no slice", cake.swap(0, 5), -1);
        due("no slice -1", cake.swap(-1, 0), -1);
        due("acts", cake.count(11), 5);
    }

    private static void stirs() {
        RueCake cake = feasting("cake 0 9;guest 85;guest 0");
        due("stir", cake.stir(0), 94);
        due("99 at most", cake.stir(0), 99);
        due("at 99", cake.stir(0), 99);
        due("three acts", cake.count(11), 3);
        due("no guest", cake.stir(2), -1);
        due("no guest -1", cake.stir(-1), -1);
        due("the other", cake.stir(1), 9);
        cake.undo();
        cake.undo();
        due("undone at 99", cake.guest(0, 0), 99);
        cake.undo();
        due("undone to 94", cake.guest(0, 0), 94);
        cake = feasting("cake 0 0;guest 85");
        due("STIR 0", cake.stir(0), -1);
        due("no act", cake.count(11), 0);
    }

    private static void undoes() {
        RueCake cake = feasting(FEAST);
        due("nothing to undo", cake.undo(), -1);
        cake.turnOne();
        cake.take(0, 0);
        cake.swap(0, 1);
        cake.lay(0);
        cake.stir(1);
        cake.turnOne();
        due("six acts", cake.count(11), 6);
        due("undo the turn", cake.undo(), 5);
        due("TURN 1", cake.count(6), 1);
        due("free again", cake.slice(2, 2), -1);
        due("undo the stir", cake.undo(), 4);
        due("rue", cake.guest(1, 0), 6);
        due("undo the lay", cake.undo(), 3);
        due("whose", cake.slice(0, 2), 1);
        due("undo the swap", cake.undo(), 2);
        due("whose then", cake.slice(0, 2), 0);
        due("undo the take", cake.undo(), 1);
        due("free then", cake.slice(0, 2), -1);
        due("undo the first turn", cake.undo(), 0);
        due("all free", cake.count(8), 31);
        due("TURN 0", cake.count(6), 0);
        due("nothing more", cake.undo(), -1);
        for (int i = 0; i < 25; i++) {
            cake.turnOne();
        }
        due("the last 20", cake.count(11), 20);
        for (int i = 19; i >= 0; i--) {
            due("undo of 20", cake.undo(), i);
        }
        due("no 21st", cake.undo(), -1);
        due("TURN 5", cake.count(6), 5);
    }

    private static void aheads() {
        RueCake cake = feasting(FEAST);
        due("ahead 0", cake.ahead(1, 0, 0), -1);
        due("ahead 1", cake.ahead(1, 1, 0), 1);
        due("slice 2 ahead 3", cake.ahead(2, 3, 0), -1);
        due("slice 2 ahead 4", cake.ahead(2, 4, 0), 0);
        due("worth ahead 2", cake.ahead(0, 2, 1), 8);
        due("worth ahead 100", cake.ahead(0, 100, 1), 12);
        due("free ahead 2", cake.ahead(0, 2, 2), 3);
        due("free, of no number", cake.ahead(-7, 100, 2), 2);
        due("n 101", cake.ahead(0, 101, 2), -2);
        due("n -1", cake.ahead(0, -1, 2), -2);
        due("what 3", cake.ahead(0, 1, 3), -2);
        due("what -1", cake.ahead(0, 1, -1), -2);
        due("no slice", cake.ahead(5, 1, 0), -2);
        due("no guest", cake.ahead(2, 1, 1), -2);
        due("no guest -1", cake.ahead(-1, 1, 1), -2);
        due("nothing changed", cake.count(6) + cake.count(11), 0);
        due("all free still", cake.count(8), 31);
        ruleOf(cake, "take 10-size");
        cake.force(0);
        due("by the rule in force", cake.ahead(4, 1, 0), 1);
    }

    private static void lefts() {
        due("left at none", feasting(FEAST).left(), -2);
        RueCake cake = feasting("cake 0 0;slice 0 1;slice 0 1;slice 0 1;guest 9;guest 9");
        due("left at 3", cake.left(), 3);
        cake.turnOne();
        due("left at 3 still", cake.left(), 3);
        cake.take(1, 1);
        cake.take(1, 2);
        due("left at this one", cake.left(), 1);
        due("without slices", feasting("cake 0 0;guest 9").left(), 0);
        due("without guests", feasting("cake 0 0;slice 0 1").left(), -2);
        cake = ruling("cake 0 0;slice 0 1;guest 9", "take 1 if turn>=98");
        cake.force(0);
        due("left at the hundredth", cake.left(), 99);
        cake = ruling("cake 0 0;slice 0 1;guest 9", "take 1 if turn>=99");
        cake.force(0);
        due("left at the one behind", cake.left(), -2);
    }

    private static void envies() {
        RueCake cake = feasting(FEAST);
        due("nobody has any", cake.envy(), 0);
        cake.take(1, 1);
        due("0 envies", cake.envy(), 1);
        cake.take(0, 4);
        due("0 envies still", cake.envy(), 1);
        cake.take(0, 0);
        due("nobody envies", cake.envy(), 0);
        cake.swap(0, 1);
        due("both envy", cake.envy(), 3);
        cake = feasting("cake 0 0;slice 0 2;slice 0 2;guest 5;guest 5");
        cake.take(0, 0);
        cake.take(1, 1);
        due("as much is no envy", cake.envy(), 0);
    }

    private static void needs() {
        RueCake cake = feasting(FEAST);
        due("two slices", cake.needs(0, 0), 2);
        due("0 and 1 (11)", cake.needs(0, 1), 3);
        due("one slice", cake.needs(1, 0), 1);
        due("slice 1 (9)", cake.needs(1, 1), 2);
        cake.take(0, 1);
        due("slice 3 (6)", cake.needs(1, 1), 8);
        due("one more for guest 0", cake.needs(0, 0), 1);
        due("slice 0", cake.needs(0, 1), 1);
        cake.take(0, 0);
        due("none needed", cake.needs(0, 0), 0);
        due("the empty set", cake.needs(0, 1), 0);
        cake.take(0, 3);
        due("2 and 4 are not enough", cake.needs(1, 0), -2);
        due("by no set", cake.needs(1, 1), -2);
        due("no guest", cake.needs(2, 0), -1);
        due("what 2", cake.needs(0, 2), -1);
        due("what -1", cake.needs(0, -1), -1);
        cake = feasting("cake 0 0;slice 0 3;slice 0 1;slice 0 2;slice 0 4;guest 5");
        due("two", cake.needs(0, 0), 2);
        due("0 and 2: 5 before 8", cake.needs(0, 1), 5);
        cake = feasting("cake 0 0" + times(";slice 0 9", 10) + ";guest 90");
        due("all ten", cake.needs(0, 0), 10);
        due("all ten as bits", cake.needs(0, 1), 1023);
    }

    private static void twos() {
        RueCake cake = feasting(FEAST);
        due("none", cake.twos(0), 0);
        due("no first", cake.twos(1), -2);
        due("no first's other", cake.twos(2), -2);
        cake.take(1, 0);
        cake.take(1, 2);
        cake.take(0, 1);
        cake.take(0, 4);
        due("0-1: 8>3 and 9>4, 1-2: 4>3 and 9>2, 2-4: 4>1 and 3>2", cake.twos(0), 3);
        due("first", cake.twos(1), 0);
        due("its other", cake.twos(2), 1);
        due("what 3", cake.twos(3), -1);
        due("what -1", cake.twos(-1), -1);
        cake.lay(0);
        due("first then", cake.twos(1) * 10 + cake.twos(2), 12);
    }

    private static void rounds() {
        RueCake cake = feasting(FEAST);
        // guest 0 with slices 0 and 1 has 11, guest 1 with the others 11
        due("much", cake.round(-1), 11);
        int all = 0;
        for (int slice = 0; slice < 5; slice++) {
            all = all * 10 + cake.round(slice);
        }
        due("who has each", all, 111);
        due("no slice 5", cake.round(5), -2);
        due("no slice 9", cake.round(9), -2);
        due("what 10", cake.round(10), -3);
        due("what -2", cake.round(-2), -3);
        cake.take(1, 0);
        due("whoever has it", cake.round(-1), 11);
        cake = feasting("cake 0 0;slice 0 1;guest 5;guest 5");
        due("fewer slices than guests", cake.round(-1), -2);
        due("fewer slices, of a slice", cake.round(0), -2);
        due("no guests", feasting("cake 0 0;slice 0 1").round(-1), -2);
        cake = feasting("cake 0 0;slice 0 1;slice 1 2;guest 5");
        due("one guest has all", cake.round(-1), 3);
        due("one guest has slice 1", cake.round(1), 0);
        cake = feasting("cake 0 0;slice 0 1;slice 0 1;slice 0 1;guest 5;guest 5;guest 5");
        due("each one", cake.round(-1), 1);
        due("in order", cake.round(0) * 100 + cake.round(1) * 10 + cake.round(2), 12);
        cake = feasting("cake 0 0;slice 0 4;slice 0 1;slice 0 4;slice 0 1;guest 5;guest 5");
        due("five each", cake.round(-1), 5);
        due("0 0 1 1 is ahead of 0 1 1 0",
            cake.round(0) * 1000 + cake.round(1) * 100 + cake.round(2) * 10 + cake.round(3), 11);
        cake = feasting("cake 0 0;slice 0 9;slice 0 1;guest 5;guest 5;likes 0 0 0;likes 1 0 0");
        due("worth nothing, none empty", cake.round(-1), 0);
        due("the first such", cake.round(0) * 10 + cake.round(1), 1);
    }

    private static void fairs() {
        RueCake cake = feasting("cake 0 0;slice 0 2;slice 0 2;slice 0 4;guest 5;guest 5");
        due("0 and 1 to one, 2 to the other", cake.fair(-1), 2);
        due("first", cake.fair(0) * 100 + cake.fair(1) * 10 + cake.fair(2), 1);
        due("no slice 3", cake.fair(3), -2);
        due("what 10", cake.fair(10), -3);
        due("what -2", cake.fair(-2), -3);
        cake.take(1, 1);
        due("one way", cake.fair(-1), 1);
        due("slice 0", cake.fair(0), 1);
        due("slice 1 is not free", cake.fair(1), -2);
        due("slice 2", cake.fair(2), 0);
        cake.take(1, 2);
        due("no way", cake.fair(-1), 0);
        due("no way for slice 0", cake.fair(0), -2);
        cake = feasting("cake 0 0" + times(";slice 0 1", 7) + ";guest 1");
        due("seven are free", cake.fair(-1), -3);
        due("seven are free, of a slice", cake.fair(0), -3);
        cake.take(0, 6);
        due("six are", cake.fair(-1), 1);
        due("no guests", feasting("cake 0 0;slice 0 1").fair(-1), 0);
        due("nothing at all", feasting("cake 0 0").fair(-1), 1);
        cake = feasting("cake 0 0;slice 0 1;guest 1;guest 1");
        cake.take(0, 0);
        due("none free, and envy", cake.fair(-1), 0);
    }

    private static void begins() {
        RueCake cake = feasting("cake 0 0;slice 0 9;slice 0 3;slice 0 1;guest 50;guest 50;guest 50");
        due("2 for guest 2", cake.begin(2, 3, 0), 2);
        due("the 9", cake.begin(2, 3, 1), 9);
        due("in one turn", cake.begin(1, 1, 0), 1);
        cake.turnOne();
        // slice 0 is gone; it is turn 1, so that 1 begins by FIRST 0
        due("FIRST 0 for guest 1", cake.begin(1, 1, 0), 0);
        due("the 3", cake.begin(1, 1, 1), 3);
        due("FIRST 2 for guest 0", cake.begin(0, 1, 0), 2);
        due("with what they have", cake.begin(0, 1, 1), 12);
        cake.take(1, 1);
        cake.take(1, 2);
        due("of alike the least", cake.begin(0, 60, 0), 0);
        due("no guest", cake.begin(3, 1, 0), -1);
        due("n 0", cake.begin(0, 0, 0), -1);
        due("n 61", cake.begin(0, 61, 0), -1);
        due("what 2", cake.begin(0, 1, 2), -1);
        due("FIRST as it was", cake.count(0), 0);
    }

    private static void leaves() {
        RueCake cake = feasting("cake 0 0;slice 0 5;slice 0 5;guest 10;guest 5;guest 5");
        // all by turns: 0 and 1 take; 1 alone has enough; without 0 both others have
        due("guest 0 had best leave", cake.leave(4, 0), 0);
        due("two have", cake.leave(4, 1), 2);
        due("for one turn nobody", cake.leave(1, 0), -1);
        due("none has then", cake.leave(1, 1), 0);
        due("n 0", cake.leave(0, 0), -2);
        due("n 61", cake.leave(61, 0), -2);
        due("what 2", cake.leave(1, 2), -2);
        due("what -1", cake.leave(1, -1), -2);
        due("rue as it was", cake.guest(0, 0), 10);
        cake = feasting("cake 0 0;slice 0 5");
        due("no guests: nobody", cake.leave(1, 0), -1);
        due("no guests: none", cake.leave(1, 1), 0);
        cake = feasting("cake 0 0;guest 0;guest 5");
        due("of nobody's all count", cake.leave(1, 1), 1);
        due("nobody's is ahead", cake.leave(1, 0), -1);
    }

    private static void kepts() {
        RueCake cake = feasting("cake 0 0;slice 1 5;slice 2 1;slice 2 1;guest 9;guest 9");
        due("kind 1 kept", cake.kept(2, 0), 1);
        due("as bits", cake.kept(2, 1), 2);
        due("in one turn kinds 1 and 2", cake.kept(1, 0), 2);
        due("both bits", cake.kept(1, 1), 6);
        due("n 0", cake.kept(0, 0), -1);
        due("n 61", cake.kept(61, 0), -1);
        due("what 2", cake.kept(1, 2), -1);
        cake.take(0, 0);
        cake.take(0, 1);
        cake.take(0, 2);
        due("by none", cake.kept(1, 0), -2);
        due("no set", cake.kept(1, 1), -2);
        cake = feasting("cake 0 0;slice 1 5;slice 2 5;guest 9;guest 9");
        due("none need be kept", cake.kept(2, 0), 0);
        due("the empty set", cake.kept(2, 1), 0);
        cake = ruling("cake 0 0;slice 1 5;slice 2 1;slice 2 1;guest 9;guest 9", "take size if free=3");
        cake.force(0);
        due("what is kept is free still", cake.kept(2, 0), 2);
        // by worth guest 1 envies with nothing kept; with kind 0 or kind 1 kept nobody does
        cake = ruling("cake 0 0;slice 0 1;slice 1 1;slice 2 1;guest 9;guest 9;likes 1 0 2;likes 1 2 3", "take 9-kind");
        cake.force(0);
        due("one kind kept", cake.kept(2, 0), 1);
        due("of two sets the least", cake.kept(2, 1), 1);
    }

    private static void games() {
        RueCake cake = feasting(FEAST);
        due("one turn", cake.game(0, 1, 1, 0), 8);
        due("slice 0", cake.game(0, 1, 1, 1), 0);
        due("8 less 9", cake.game(0, 1, 2, 0), -1);
        due("slice 0 of two turns", cake.game(0, 1, 2, 1), 0);
        // slice 0 then 1 then 2: 8 - 9 + 4; then guest 1 slice 3: - 6
        due("three turns", cake.game(0, 1, 3, 0), 3);
        due("four turns", cake.game(0, 1, 4, 0), -3);
        due("the other first", cake.game(1, 0, 2, 0), 1);
        due("slice 1", cake.game(1, 0, 2, 1), 1);
        due("unlike", cake.game(1, 1, 1, 0), -1000);
        due("no guest", cake.game(0, 2, 1, 0), -1000);
        due("no guest -1", cake.game(-1, 0, 1, 0), -1000);
        due("n 0", cake.game(0, 1, 0, 0), -1000);
        due("n 5", cake.game(0, 1, 5, 0), -1000);
        due("what 2", cake.game(0, 1, 1, 2), -1000);
        for (int slice = 0; slice < 4; slice++) {
            cake.take(1, slice);
        }
        due("one slice left", cake.game(0, 1, 4, 0), 1 - 21);
        due("that one", cake.game(0, 1, 4, 1), 4);
        cake.take(1, 4);
        due("none free", cake.game(0, 1, 4, 0), -24);
        due("no slice", cake.game(0, 1, 4, 1), -1);
        cake = feasting("cake 0 0;slice 0 5;guest 0;guest 0;likes 0 0 0");
        due("any is taken, worth or not", cake.game(0, 1, 2, 0), 0);
        due("that it is", cake.game(0, 1, 2, 1), 0);
    }

    private static void pences() {
        RueCake cake = feasting("cake 0 5;guest 1;guest 2;guest 4");
        due("10 by 1 2 4: 1.43", cake.pence(10, 0), 1);
        due("2.86", cake.pence(10, 1), 3);
        due("5.71", cake.pence(10, 2), 6);
        due("nothing", cake.pence(0, 2), 0);
        due("much", cake.pence(9999, 2), 5714);
        due("too much", cake.pence(10000, 0), -1);
        due("below 0", cake.pence(-1, 0), -1);
        due("no guest", cake.pence(1, 3), -1);
        due("no guest -1", cake.pence(1, -1), -1);
        cake.stir(0);
        due("by rue as it is: 6 of 12", cake.pence(12, 0), 6);
        cake = feasting("cake 0 0;guest 0;guest 0;guest 0");
        due("alike, the first ones first", cake.pence(5, 0) * 100 + cake.pence(5, 1) * 10 + cake.pence(5, 2), 221);
        cake = feasting("cake 0 0;guest 0;guest 3;guest 3");
        due("who rues 0 has none", cake.pence(7, 0) * 100 + cake.pence(7, 1) * 10 + cake.pence(7, 2), 43);
    }

    private static void notes() {
        RueCake cake = feasting(FEAST);
        due("note", cake.note(0, 0, -1), 1);
        due("two", cake.note(60, 4, 1), 2);
        due("n 61", cake.note(61, 0, 0), -2);
        due("n -2", cake.note(-2, 0, 0), -2);
        due("no slice", cake.note(1, 5, 0), -2);
        due("no slice -1", cake.note(1, -1, 0), -2);
        due("no guest", cake.note(1, 0, 2), -2);
        due("no guest -2", cake.note(1, 0, -2), -2);
        for (int i = 3; i <= 10; i++) {
            due("more", cake.note(1, 0, 0), i);
        }
        due("an eleventh", cake.note(1, 0, 0), -2);
        due("ten", cake.count(10), 10);
        due("none then", cake.note(-1, 99, 99), 0);
        due("count", cake.count(10), 0);
        due("no act", cake.count(11), 0);
    }

    /**
     * By turns 0 to 3, rule 0: 1 takes 4, 0 takes 2, 1 takes 1, 0 takes 0; rule 1: 1 takes 3, 0 takes 0,
     * nothing, 0 takes 1; rule 2 as none.
     */
    private static RueCake ruledByThree() {
        return ruling(FEAST, "take 10-size", "take size", "take worth");
    }

    private static void ruled() {
        RueCake cake = ruledByThree();
        due("all four", cake.ruled(0), 4);
        due("none first", cake.ruled(1), -1);
        cake.note(0, 4, 1);
        due("rule 0 alone", cake.ruled(0), 1);
        due("that is 0", cake.ruled(1), 0);
        cake.note(-1, 0, 0);
        cake.note(0, 1, 1);
        due("none and 2", cake.ruled(0), 2);
        due("none ahead", cake.ruled(1), -1);
        cake.note(0, 0, -1);
        due("behind turn 0 slice 0 is free still", cake.ruled(0), 2);
        cake.note(1, 0, 0);
        due("behind turn 1 it is taken", cake.ruled(0), 2);
        cake.turnOne();
        cake.stir(1);
        cake.take(0, 3);
        due("from the begin on, as told", cake.ruled(0), 2);
        cake.note(-1, 0, 0);
        cake.note(0, 3, 1);
        due("rule 1", cake.ruled(1), 1);
        cake.note(0, 3, 0);
        due("no rule", cake.ruled(0), 0);
        due("no first", cake.ruled(1), -2);
        due("what 2", cake.ruled(2), -3);
        due("what -1", cake.ruled(-1), -3);
        ruledLater();
    }

    private static void ruledLater() {
        RueCake cake = ruledByThree();
        cake.note(2, 1, 1);
        due("behind turn 2 all but rule 1", cake.ruled(0), 3);
        cake.note(1, 1, -1);
        due("ahead of it rule 0 alone, whatever is told first", cake.ruled(0), 1);
        due("that is 0 again", cake.ruled(1), 0);
        cake = ruling("cake 0 0;slice 0 1;guest 9", "take turn-59", "take turn-60");
        cake.note(60, 0, 0);
        due("turn 60 is looked at, turn 61 not", cake.ruled(0), 2);
        cake.note(59, 0, -1);
        due("taken at turn 60 itself", cake.ruled(0), 1);
        due("by rule 0", cake.ruled(1), 0);
        cake = feasting("cake 0 0;slice 0 1");
        cake.note(0, 0, -1);
        due("without guests nobody has it", cake.ruled(0), 1);
        cake = feasting("cake 1 0;slice 0 1;guest 9;guest 9");
        cake.note(0, 0, 0);
        due("who begins takes it", cake.ruled(0), 0);
        cake.note(-1, 0, 0);
        cake.note(0, 0, 1);
        due("that is guest 1", cake.ruled(0), 1);
    }

    private static void looks() {
        RueCake cake = ruledByThree();
        due("slice 1 parts two and two", cake.look(0, 0), 1);
        due("two alike", cake.look(0, 1), 2);
        due("behind turn 1 too", cake.look(1, 0), 1);
        due("two alike still", cake.look(1, 1), 2);
        due("behind turn 2 each slice parts three and one", cake.look(2, 0), 0);
        due("three alike", cake.look(2, 1), 3);
        due("behind turn 3 all have taken slice 0", cake.look(3, 0), 1);
        due("three alike then", cake.look(3, 1), 3);
        cake.note(0, 1, -1);
        due("rules 0 and 1 part by slice 3", cake.look(0, 0), 3);
        due("one alike", cake.look(0, 1), 1);
        due("by slice 0 behind turn 1", cake.look(1, 0), 0);
        due("n 61", cake.look(61, 0), -1);
        due("n -1", cake.look(-1, 0), -1);
        due("what 2", cake.look(0, 2), -1);
        due("what -1", cake.look(0, -1), -1);
        cake.note(0, 0, 0);
        due("no rule is so", cake.look(1, 0), -2);
        due("none alike", cake.look(1, 1), -2);
        due("no slices", feasting("cake 0 0;guest 1").look(1, 0), -2);
        due("no slices, how many", feasting("cake 0 0;guest 1").look(1, 1), -2);
        cake = ruling("cake 0 0;slice 0 1;guest 9", "take turn-59");
        due("not taken behind turn 59", cake.look(59, 1), 1);
        due("taken at turn 60", cake.look(60, 1), 2);
        due("the one slice all the same", cake.look(60, 0), 0);
    }

    private static void seeds() {
        RueCake cake = new RueCake();
        due("0 at first", cake.seed(5), 0);
        due("5", cake.seed(2147483647), 5);
        due("below 0", cake.seed(-1), -1);
        due("stays", cake.count(12), 2147483647);
        due("the most", cake.seed(0), 2147483647);
    }

    private static void flames() {
        RueCake cake = feasting(FEAST);
        due("p 0 is as ahead", cake.flames(1, 4, 0, 0), 2);
        due("nobody has less", cake.flames(1, 4, 0, 1), 0);
        due("ten times", cake.flames(10, 4, 0, 0), 20);
        due("behind one turn both have less, or one", cake.flames(3, 1, 0, 1), 3);
        // x 0: 12345, whose draw is 0, below 1; then 1406932606: 21468 mod 2 = 0 is stirred to 15;
        // 654583775: 9988 mod 100 = 88. Guest 1 takes slice 1, guest 0 slice 0: has 8 of 15
        due("drawn", cake.flames(1, 2, 1, 1), 1);
        due("x as it was", cake.count(12), 0);
        due("rue as it was", cake.guest(0, 0), 10);
        due("TURN as it was", cake.count(6), 0);
        // the same draws, four turns: of 15 guest 0 has 12 then
        due("stirred", cake.flames(1, 4, 1, 1), 1);
        cake.seed(12345);
        due("from another x", cake.flames(1, 4, 1, 1), 0);
        due("m 0", cake.flames(0, 1, 0, 0), -1);
        due("m 11", cake.flames(11, 1, 0, 0), -1);
        due("n 0", cake.flames(1, 0, 0, 0), -1);
        due("n 61", cake.flames(1, 61, 0, 0), -1);
        due("p -1", cake.flames(1, 1, -1, 0), -1);
        due("p 101", cake.flames(1, 1, 101, 0), -1);
        due("p 100", cake.flames(1, 60, 100, 0) >= 0 ? 1 : 0, 1);
        due("what 2", cake.flames(1, 1, 0, 2), -1);
        cake = feasting("cake 0 0;slice 0 1");
        due("without guests", cake.flames(10, 60, 100, 0), 10);
        due("without guests none has less", cake.flames(10, 60, 100, 1), 0);
        cake = feasting("cake 0 0;slice 0 1;guest 0");
        due("STIR 0", cake.flames(1, 60, 100, 0), 1);
        cake = feasting("cake 0 1;slice 0 1;guest 0");
        due("STIR 1", cake.flames(1, 1, 100, 0), 0);
    }

    private static void counts() {
        RueCake cake = ruling("cake 3 7;slice 0 2;slice 1 3;slice 0 1;guest 2;guest 9", "take 1", "take 2");
        cake.force(1);
        cake.take(0, 0);
        cake.turnOne();
        cake.note(3, 1, -1);
        cake.seed(99);
        cake.feed(1, 2, 3, 4, 5);
        int[] counts = {3, 7, 3, 2, 2, 1, 1, 0, 4, 1, 1, 2, 99, 20};
        for (int what = 0; what < counts.length; what++) {
            due("count " + what, cake.count(what), counts[what]);
        }
        due("count 14", cake.count(14), -1);
        due("count -1", cake.count(-1), -1);
    }

    private static void images() {
        RueCake cake = new RueCake();
        due("image of nothing", cake.image(3), 0);
        feastOf(cake, FEAST);
        ruleOf(cake, "take 10-size");
        cake.force(0);
        cake.seed(5);
        cake.turnOne();
        cake.stir(0);
        cake.note(1, 1, 1);
        due("image", cake.image(0), 1);
        due("image -1", cake.image(-1), -1);
        due("image 4", cake.image(4), -1);
        due("acts go on", cake.count(11), 2);
        cake.turnOne();
        cake.seed(6);
        cake.force(-1);
        cake.note(-1, 0, 0);
        cake.stir(1);
        ruleOf(cake, "take size");
        feastOf(cake, "cake 0 0;slice 3 9");
        cake.turnOne();
        cake.feed(1, 2, 3, 4, 5);
        due("back", cake.back(0), 1);
        int[] counts = {1, 5, 5, 2, 2, 0, 1, 0, 15, 0, 1, 0, 5, 20};
        for (int what = 0; what < counts.length; what++) {
            due("count " + what + " is as it was", cake.count(what), counts[what]);
        }
        due("rue as it was", cake.guest(0, 0), 15);
        due("the other's", cake.guest(1, 0), 6);
        due("notes as they were", cake.ruled(0), 1);
        due("nothing can be undone", cake.undo(), -1);
        due("never made", cake.back(1), -1);
        due("back 4", cake.back(4), -1);
        due("back -1", cake.back(-1), -1);
        cake.turnOne();
        due("back once more", cake.back(0), 1);
        due("back to nothing", cake.back(3), 0);
        due("no feast", cake.turnOne(), -2);
        due("the rules stay", cake.count(4), 2);
        due("none was in force", cake.count(5), -1);
    }
}
