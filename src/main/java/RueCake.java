import java.util.Arrays;

/** A feast at which a round cake is cut by area of regret. README.md says how to use it. */
public final class RueCake {
    public static final int NONE = -1;

    /** The answers where NONE has a meaning of its own. */
    private static final int WITHOUT = -2;
    private static final int REFUSED = -3;
    private static final int NO_GAME = -1000;

    private static final int MOST_BYTES = 400;
    private static final int MOST_SLICES = 10;
    private static final int MOST_GUESTS = 5;
    private static final int KINDS = 4;
    private static final int MOST_RULES = 6;
    private static final int MOST_NOTES = 10;
    private static final int MOST_IMAGES = 4;
    private static final int MOST_RUE = 99;
    private static final int LAST_TURN = 999;
    private static final int MOST_AHEAD = 100;
    private static final int MOST_TURNS = 60;
    private static final int MOST_SHARED = 6;
    private static final int MOST_GAME = 4;
    private static final int MOST_TIMES = 10;
    private static final int MOST_PENCE = 9999;

    /** What can be wrong at a place of a text. */
    private static final int FAULT_SIGN = 0;
    private static final int FAULT_NUMBER = 1;
    private static final int FAULT_DEPTH = 2;
    private static final int FAULT_PARTS = 3;
    private static final int FAULT_CLAUSE = 4;

    /** Pieces of a text that are no single byte; behind these, the names. */
    private static final int END = -1;
    private static final int NUMBER = 256;
    private static final int OTHER_WORD = 257;
    private static final int AT_MOST = 258;
    private static final int AT_LEAST = 259;
    private static final int FIRST_NAME = 260;

    /** Orders of a rule's code: the low five bits; above them a number, or which word. */
    private static final int DO_NUMBER = 0;
    private static final int DO_WORD = 1;
    private static final int DO_PLUS = 2;
    private static final int DO_MINUS = 3;
    private static final int DO_TIMES = 4;
    private static final int DO_DIVIDE = 5;
    private static final int DO_REST = 6;
    private static final int DO_LESS = 7;
    private static final int DO_AT_MOST = 8;
    private static final int DO_SAME = 9;
    private static final int DO_AT_LEAST = 10;
    private static final int DO_MORE = 11;
    private static final int DO_AND = 12;
    private static final int DO_OR = 13;
    private static final int DO_NOT = 14;
    private static final int ORDER_BITS = 5;
    private static final int ORDER_MASK = 31;

    /** Names stand in a row, each with blanks to the same width, so that one number tells which. */
    private static final String NAMES =
        "guest  slice  kind   size   likes  worth  has    rue    free   beside mine   turn   cake   take   if     not    and    or     ";
    private static final int NAME_WIDTH = 7;

    /** The words of a rule: where each stands among the names. */
    private static final int W_GUEST = 0;
    private static final int W_SLICE = 1;
    private static final int W_KIND = 2;
    private static final int W_SIZE = 3;
    private static final int W_LIKES = 4;
    private static final int W_WORTH = 5;
    private static final int W_HAS = 6;
    private static final int W_RUE = 7;
    private static final int W_FREE = 8;
    private static final int W_BESIDE = 9;
    private static final int W_MINE = 10;
    private static final int W_TURN = 11;
    private static final int WORDS = 12;

    /** The names that are pieces of their own. */
    private static final int NAME_GUEST = FIRST_NAME + W_GUEST;
    private static final int NAME_SLICE = FIRST_NAME + W_SLICE;
    private static final int NAME_LIKES = FIRST_NAME + W_LIKES;
    private static final int NAME_CAKE = FIRST_NAME + WORDS;
    private static final int NAME_TAKE = NAME_CAKE + 1;
    private static final int NAME_IF = NAME_CAKE + 2;
    private static final int NAME_NOT = NAME_CAKE + 3;
    private static final int NAME_AND = NAME_CAKE + 4;
    private static final int NAME_OR = NAME_CAKE + 5;

    /** Values and facts of a rule, together; its values never stand higher on the stack. */
    private static final int MOST_PARTS = 60;

    private final Text tape;
    private final Feast draft;
    private final RuleReader ruleReader;
    private final Rule[] rules;
    private int ruleCount;
    private final State now;
    private final State[] images;
    private final boolean[] made;
    private final Acts acts;
    private final Turns turns;
    private final Shares shares;
    private final Searches searches;
    private final Outlook outlook;

    public RueCake() {
        Text text = new Text();
        State state = new State();
        Rule[] row = new Rule[MOST_RULES];
        Turns course = new Turns(state.feast);
        Shares scales = new Shares(state.feast);
        tape = text;
        draft = new Feast();
        ruleReader = new RuleReader(text);
        rules = row;
        now = state;
        images = new State[MOST_IMAGES];
        for (int k = 0; k < MOST_IMAGES; k++) {
            images[k] = new State();
        }
        made = new boolean[MOST_IMAGES];
        acts = new Acts();
        turns = course;
        shares = scales;
        searches = new Searches(state.table, scales);
        outlook = new Outlook(state, row, course, scales);
    }

    public int feed(int a, int b, int c, int d, int e) {
        if (tape.length > MOST_BYTES - 20) {
            return NONE;
        }
        tape.add(a);
        tape.add(b);
        tape.add(c);
        tape.add(d);
        tape.add(e);
        return tape.length;
    }

    public int end(int n) {
        if (n < 0 || n > tape.length) {
            return NONE;
        }
        tape.length = n;
        return n;
    }

    public int feast() {
        boolean fine = draft.read(tape);
        tape.length = 0;
        if (!fine) {
            return WITHOUT - tape.fault;
        }
        now.feast.copyFrom(draft);
        now.table.layOut();
        now.notes = 0;
        acts.forget();
        return now.feast.slices;
    }

    public int rule() {
        if (ruleCount >= MOST_RULES) {
            return NONE;
        }
        Rule told = ruleReader.read();
        tape.length = 0;
        if (told == null) {
            return WITHOUT - tape.fault;
        }
        rules[ruleCount] = told;
        ruleCount++;
        return ruleCount - 1;
    }

    public int force(int rule) {
        if (rule < NONE || rule >= ruleCount) {
            return WITHOUT;
        }
        int was = now.inForce;
        now.inForce = rule;
        return was;
    }

    public int slice(int slice, int what) {
        if (!now.feast.hasSlice(slice)) {
            return WITHOUT;
        }
        switch (what) {
            case 0:
                return now.feast.kinds[slice];
            case 1:
                return now.feast.sizes[slice];
            case 2:
                return now.table.owners[slice];
            default:
                return WITHOUT;
        }
    }

    public int guest(int guest, int what) {
        if (!now.feast.hasGuest(guest)) {
            return NONE;
        }
        switch (what) {
            case 0:
                return now.table.rues[guest];
            case 1:
                return now.table.worthOwn(guest);
            case 2:
                return now.table.slicesOf(guest);
            case 3:
            case 4:
            case 5:
            case 6:
                return now.feast.liking(guest, what - 3);
            default:
                return NONE;
        }
    }

    public int turnOne() {
        if (!now.feast.told || now.table.turn >= LAST_TURN) {
            return WITHOUT;
        }
        int taken = turns.goOn(now.table, outlook.ruleInForce(), 0);
        acts.add(Acts.TURN, taken, NONE);
        return taken;
    }

    public int take(int guest, int slice) {
        if (!now.feast.hasGuest(guest) || !now.table.isFree(slice)) {
            return NONE;
        }
        now.table.owners[slice] = guest;
        acts.add(Acts.TAKE, slice, NONE);
        return now.table.worthOwn(guest);
    }

    public int lay(int slice) {
        int who = now.table.ownerOf(slice);
        if (who == NONE) {
            return NONE;
        }
        now.table.owners[slice] = NONE;
        acts.add(Acts.LAY, slice, who);
        return who;
    }

    public int swap(int one, int other) {
        int who = now.table.ownerOf(one);
        int whoElse = now.table.ownerOf(other);
        if (who == NONE || whoElse == NONE || who == whoElse) {
            return NONE;
        }
        now.table.change(one, other);
        acts.add(Acts.SWAP, one, other);
        return 1;
    }

    public int stir(int guest) {
        if (!now.feast.hasGuest(guest) || now.feast.stirring == 0) {
            return NONE;
        }
        acts.add(Acts.STIR, guest, now.table.rues[guest]);
        now.table.addRue(guest);
        return now.table.rues[guest];
    }

    public int undo() {
        return acts.takeBack(now.table);
    }

    public int ahead(int number, int n, int what) {
        if (!now.feast.told || n < 0 || n > MOST_AHEAD) {
            return WITHOUT;
        }
        if (what == 0 && now.feast.hasSlice(number)) {
            return outlook.after(n).owners[number];
        }
        if (what == 1 && now.feast.hasGuest(number)) {
            return outlook.after(n).worthOwn(number);
        }
        if (what == 2) {
            return Integer.bitCount(outlook.after(n).slicesOf(NONE));
        }
        return WITHOUT;
    }

    public int left() {
        return now.feast.told ? outlook.firstTurnWithNothing() : NONE;
    }

    public int envy() {
        return now.feast.told ? shares.envious(now.table) : NONE;
    }

    public int needs(int guest, int what) {
        if (!now.feast.hasGuest(guest) || what < 0 || what > 1) {
            return NONE;
        }
        int set = shares.fewestSlices(now.table, guest);
        return what == 0 && set >= 0 ? Integer.bitCount(set) : set;
    }

    public int twos(int what) {
        if (!now.feast.told || what < 0 || what > 2) {
            return NONE;
        }
        shares.findSwaps(now.table);
        if (what == 0) {
            return shares.swaps;
        }
        return what == 1 ? shares.one : shares.other;
    }

    public int round(int what) {
        if (!now.feast.told || what < NONE || what >= MOST_SLICES) {
            return REFUSED;
        }
        if (!searches.cutRound()) {
            return WITHOUT;
        }
        return what == NONE ? searches.most : searches.ownerFound(what);
    }

    public int fair(int what) {
        if (!now.feast.told || what < NONE || what >= MOST_SLICES) {
            return REFUSED;
        }
        if (Integer.bitCount(now.table.slicesOf(NONE)) > MOST_SHARED) {
            return REFUSED;
        }
        searches.shareFairly();
        if (what == NONE) {
            return searches.ways;
        }
        return searches.ways > 0 && now.table.isFree(what) ? searches.ownerFound(what) : WITHOUT;
    }

    public int begin(int guest, int n, int what) {
        if (!now.feast.hasGuest(guest) || n < 1 || n > MOST_TURNS || what < 0 || what > 1) {
            return NONE;
        }
        outlook.bestToBegin(guest, n);
        return what == 0 ? outlook.which : outlook.much;
    }

    public int leave(int n, int what) {
        if (!now.feast.told || n < 1 || n > MOST_TURNS || what < 0 || what > 1) {
            return WITHOUT;
        }
        outlook.bestToLeave(n);
        return what == 0 ? outlook.which : outlook.much;
    }

    public int kept(int n, int what) {
        if (!now.feast.told || n < 1 || n > MOST_TURNS || what < 0 || what > 1) {
            return NONE;
        }
        outlook.fewestKept(n);
        return what == 0 ? outlook.much : outlook.which;
    }

    public int game(int one, int other, int n, int what) {
        if (!now.feast.hasGuest(one) || !now.feast.hasGuest(other) || one == other) {
            return NO_GAME;
        }
        if (n < 1 || n > MOST_GAME || what < 0 || what > 1) {
            return NO_GAME;
        }
        searches.playGame(one, other, n);
        return what == 0 ? searches.most : searches.firstTaken;
    }

    public int pence(int much, int guest) {
        if (!now.feast.hasGuest(guest) || much < 0 || much > MOST_PENCE) {
            return NONE;
        }
        return shares.penceOf(now.table, much, guest);
    }

    public int note(int n, int slice, int guest) {
        if (n == NONE) {
            now.notes = 0;
            return 0;
        }
        if (n < 0 || n > MOST_TURNS || !now.feast.hasSlice(slice)) {
            return WITHOUT;
        }
        if (guest != NONE && !now.feast.hasGuest(guest)) {
            return WITHOUT;
        }
        return now.addNote(n, slice, guest) ? now.notes : WITHOUT;
    }

    public int ruled(int what) {
        if (!now.feast.told || what < 0 || what > 1) {
            return REFUSED;
        }
        int fitting = outlook.fittingRules(ruleCount);
        if (what == 0) {
            return Integer.bitCount(fitting);
        }
        return fitting == 0 ? WITHOUT : Integer.numberOfTrailingZeros(fitting) - 1;
    }

    public int look(int n, int what) {
        if (!now.feast.told || n < 0 || n > MOST_TURNS || what < 0 || what > 1) {
            return NONE;
        }
        outlook.bestToLookAt(n, outlook.fittingRules(ruleCount));
        return what == 0 ? outlook.which : outlook.much;
    }

    public int seed(int x) {
        if (x < 0) {
            return NONE;
        }
        int was = now.x;
        now.x = x;
        return was;
    }

    public int flames(int m, int n, int p, int what) {
        if (!now.feast.told || m < 1 || m > MOST_TIMES || n < 1 || n > MOST_TURNS) {
            return NONE;
        }
        if (p < 0 || p > 100 || what < 0 || what > 1) {
            return NONE;
        }
        outlook.burn(m, n, p);
        return what == 0 ? outlook.which : outlook.much;
    }

    public int count(int what) {
        switch (what) {
            case 0:
                return now.feast.first;
            case 1:
                return now.feast.stirring;
            case 2:
                return now.feast.slices;
            case 3:
                return now.feast.guests;
            case 4:
                return ruleCount;
            case 5:
                return now.inForce;
            case 6:
                return now.table.turn;
            case 7:
                return now.table.guestAtTurn();
            case 8:
                return now.table.slicesOf(NONE);
            case 9:
                return now.table.contented();
            case 10:
                return now.notes;
            case 11:
                return acts.kept;
            case 12:
                return now.x;
            case 13:
                return tape.length;
            default:
                return NONE;
        }
    }

    public int image(int k) {
        if (k < 0 || k >= MOST_IMAGES) {
            return NONE;
        }
        images[k].copyFrom(now);
        made[k] = true;
        return now.table.turn;
    }

    public int back(int k) {
        if (k < 0 || k >= MOST_IMAGES || !made[k]) {
            return NONE;
        }
        now.copyFrom(images[k]);
        acts.forget();
        return now.table.turn;
    }

    /** The tape; while it is read, its pieces and the one that is being looked at. */
    private static final class Text {
        private static final int MOST_DIGITS = 5;
        private static final int BLANK = 32;

        private final byte[] bytes = new byte[MOST_BYTES];
        private final int[] pieces = new int[MOST_BYTES + 1];
        private final int[] places = new int[MOST_BYTES + 1];
        private final int[] numbers = new int[MOST_BYTES + 1];
        private int count;
        private int at;
        int length;
        int piece;
        int number;
        private int place;
        int fault;

        void add(int four) {
            for (int shift = 24; shift >= 0 && length < MOST_BYTES; shift -= 8) {
                bytes[length] = (byte) (four >>> shift);
                length++;
            }
        }

        void readAnew() {
            split();
            at = NONE;
            fault = 0;
            next();
        }

        /** The end is looked at again and again, once it is reached. */
        void next() {
            at = at + 1 < count ? at + 1 : count - 1;
            if (at >= 0 && at <= MOST_BYTES) {
                piece = pieces[at];
                place = places[at];
                number = numbers[at];
            }
        }

        /** Refuses the text because of the piece that is being looked at. */
        boolean refuse(int why) {
            fault = 1 + 8 * place + why;
            return false;
        }

        private void split() {
            count = 0;
            int from = 0;
            for (int i = 0; i < MOST_BYTES && from < length; i++) {
                from = byteAt(from) == BLANK ? from + 1 : splitOff(from);
            }
            keep(END, length, NONE);
        }

        /** Splits off the piece that begins at a place: the place behind it. */
        private int splitOff(int from) {
            int sign = byteAt(from);
            if (isDigit(sign)) {
                return splitNumber(from);
            }
            if (isLetter(sign)) {
                return splitWord(from);
            }
            if ((sign == '<' || sign == '>') && byteAt(from + 1) == '=') {
                keep(sign == '<' ? AT_MOST : AT_LEAST, from, NONE);
                return from + 2;
            }
            keep(sign, from, NONE);
            return from + 1;
        }

        /** A number of more digits is NONE, which nowhere is a number as told. */
        private int splitNumber(int from) {
            int value = 0;
            int behind = from;
            while (behind < length && isDigit(byteAt(behind))) {
                if (behind - from < MOST_DIGITS) {
                    value = value * 10 + byteAt(behind) - '0';
                }
                behind++;
            }
            keep(NUMBER, from, behind - from > MOST_DIGITS ? NONE : value);
            return behind;
        }

        private int splitWord(int from) {
            int behind = from;
            while (behind < length && isLetter(byteAt(behind))) {
                behind++;
            }
            int piece = OTHER_WORD;
            for (int i = 0; (i + 1) * NAME_WIDTH <= NAMES.length(); i++) {
                if (isName(i * NAME_WIDTH, from, behind)) {
                    piece = FIRST_NAME + i;
                }
            }
            keep(piece, from, NONE);
            return behind;
        }

        private boolean isName(int name, int from, int behind) {
            if (behind - from > NAME_WIDTH) {
                return false;
            }
            for (int i = 0; i < NAME_WIDTH && name + i < NAMES.length(); i++) {
                int letter = from + i < behind ? byteAt(from + i) : BLANK;
                if (NAMES.charAt(name + i) != letter) {
                    return false;
                }
            }
            return true;
        }

        private void keep(int piece, int place, int number) {
            if (count >= 0 && count <= MOST_BYTES) {
                pieces[count] = piece;
                places[count] = place;
                numbers[count] = number;
                count++;
            }
        }

        private int byteAt(int index) {
            return index >= 0 && index < length && index < MOST_BYTES ? bytes[index] & 255 : END;
        }

        private static boolean isDigit(int sign) {
            return sign >= '0' && sign <= '9';
        }

        private static boolean isLetter(int sign) {
            return sign >= 'a' && sign <= 'z';
        }
    }

    /** What the text of a feast told. Guests who take change nothing of it. */
    private static final class Feast {
        private static final int MOST_CLAUSES = 40;

        boolean told;
        int first;
        int stirring;
        int slices;
        int guests;
        final int[] kinds = new int[MOST_SLICES];
        final int[] sizes = new int[MOST_SLICES];
        final int[] rues = new int[MOST_GUESTS];
        private final int[] likings = new int[MOST_GUESTS * KINDS];
        private final int[] worths = new int[MOST_GUESTS * MOST_SLICES];

        void copyFrom(Feast other) {
            told = other.told;
            first = other.first;
            stirring = other.stirring;
            slices = other.slices;
            guests = other.guests;
            System.arraycopy(other.kinds, 0, kinds, 0, kinds.length);
            System.arraycopy(other.sizes, 0, sizes, 0, sizes.length);
            System.arraycopy(other.rues, 0, rues, 0, rues.length);
            System.arraycopy(other.likings, 0, likings, 0, likings.length);
            System.arraycopy(other.worths, 0, worths, 0, worths.length);
        }

        boolean hasSlice(int slice) {
            return slice >= 0 && slice < slices;
        }

        boolean hasGuest(int guest) {
            return guest >= 0 && guest < guests;
        }

        int liking(int guest, int kind) {
            return hasGuest(guest) && kind >= 0 && kind < KINDS ? likings[guest * KINDS + kind] : 0;
        }

        int worth(int slice, int guest) {
            boolean known = slice >= 0 && slice < slices && guest >= 0 && guest < guests;
            return known ? worths[guest * MOST_SLICES + slice] : 0;
        }

        /** Whether the text is a feast; the text has its fault, if not. */
        boolean read(Text text) {
            told = false;
            slices = 0;
            guests = 0;
            Arrays.fill(likings, 1);
            text.readAnew();
            for (int clauses = 0; clauses <= MOST_CLAUSES; clauses++) {
                if (!readClause(text, clauses)) {
                    return false;
                }
                text.next();
                if (text.piece == END) {
                    weigh();
                    told = true;
                    return true;
                }
                if (text.piece != ';') {
                    return text.refuse(FAULT_SIGN);
                }
                text.next();
            }
            return false;
        }

        private boolean readClause(Text text, int clauses) {
            int name = text.piece;
            if (name != NAME_CAKE && name != NAME_SLICE && name != NAME_GUEST && name != NAME_LIKES) {
                return text.refuse(FAULT_SIGN);
            }
            if (clauses >= MOST_CLAUSES || (name == NAME_CAKE) != (clauses == 0)) {
                return text.refuse(FAULT_CLAUSE);
            }
            switch (name) {
                case NAME_CAKE:
                    return readCake(text);
                case NAME_SLICE:
                    return readSlice(text);
                case NAME_GUEST:
                    return readGuest(text);
                default:
                    return readLikes(text);
            }
        }

        private boolean readCake(Text text) {
            first = numberIn(text, 0, MOST_GUESTS - 1);
            if (first == NONE) {
                return false;
            }
            stirring = numberIn(text, 0, 9);
            return stirring != NONE;
        }

        private boolean readSlice(Text text) {
            if (slices >= MOST_SLICES) {
                return text.refuse(FAULT_CLAUSE);
            }
            int kind = numberIn(text, 0, KINDS - 1);
            if (kind == NONE) {
                return false;
            }
            int size = numberIn(text, 1, 9);
            if (size == NONE) {
                return false;
            }
            kinds[slices] = kind;
            sizes[slices] = size;
            slices++;
            return true;
        }

        private boolean readGuest(Text text) {
            if (guests >= MOST_GUESTS) {
                return text.refuse(FAULT_CLAUSE);
            }
            int rue = numberIn(text, 0, MOST_RUE);
            if (rue == NONE) {
                return false;
            }
            rues[guests] = rue;
            guests++;
            return true;
        }

        private boolean readLikes(Text text) {
            int guest = numberIn(text, 0, guests - 1);
            if (guest == NONE) {
                return false;
            }
            int kind = numberIn(text, 0, KINDS - 1);
            if (kind == NONE) {
                return false;
            }
            int much = numberIn(text, 0, 9);
            if (much == NONE) {
                return false;
            }
            likings[guest * KINDS + kind] = much;
            return true;
        }

        /** The next piece as a number, or NONE: the text is refused. */
        private static int numberIn(Text text, int least, int most) {
            text.next();
            if (text.piece != NUMBER) {
                text.refuse(FAULT_SIGN);
                return NONE;
            }
            if (text.number < least || text.number > most) {
                text.refuse(FAULT_NUMBER);
                return NONE;
            }
            return text.number;
        }

        private void weigh() {
            for (int guest = 0; guest < guests; guest++) {
                for (int slice = 0; slice < slices; slice++) {
                    worths[guest * MOST_SLICES + slice] = sizes[slice] * liking(guest, kinds[slice]);
                }
            }
        }
    }

    /** Turns the text of a rule into code in which what is to be joined stands ahead of its order. */
    private static final class RuleReader {
        private static final int MOST_CLAUSES = 12;
        private static final int MOST_DEPTH = 10;

        private final Text text;
        private final int[] code = new int[MOST_BYTES];
        private final int[] starts = new int[2 * MOST_CLAUSES + 1];
        private int size;
        private int parts;

        RuleReader(Text text) {
            this.text = text;
        }

        /** The rule, or null: the text has its fault then. */
        Rule read() {
            size = 0;
            parts = 0;
            text.readAnew();
            for (int clauses = 0; clauses < MOST_CLAUSES; clauses++) {
                if (!readClause(2 * clauses)) {
                    return null;
                }
                if (text.piece == END) {
                    return new Rule(Arrays.copyOf(code, size), Arrays.copyOf(starts, 2 * clauses + 3));
                }
                if (text.piece != ';') {
                    text.refuse(FAULT_SIGN);
                    return null;
                }
                text.next();
            }
            text.refuse(text.piece == NAME_TAKE ? FAULT_CLAUSE : FAULT_SIGN);
            return null;
        }

        private boolean readClause(int start) {
            if (text.piece != NAME_TAKE) {
                return text.refuse(FAULT_SIGN);
            }
            starts[start] = size;
            text.next();
            if (!readSum()) {
                return false;
            }
            starts[start + 1] = size;
            if (text.piece == NAME_IF) {
                text.next();
                if (!readTest(0)) {
                    return false;
                }
            }
            starts[start + 2] = size;
            return true;
        }

        /** An or waits for the ands behind it, as these bind closer. */
        private boolean readTest(int depth) {
            boolean waits = false;
            if (!readFact(depth)) {
                return false;
            }
            for (int i = 0; i < MOST_BYTES && (text.piece == NAME_AND || text.piece == NAME_OR); i++) {
                int join = text.piece;
                if (join == NAME_OR && waits) {
                    put(DO_OR);
                }
                waits = waits || join == NAME_OR;
                text.next();
                if (!readFact(depth)) {
                    return false;
                }
                if (join == NAME_AND) {
                    put(DO_AND);
                }
            }
            if (waits) {
                put(DO_OR);
            }
            return true;
        }

        private boolean readFact(int depth) {
            int within = depth;
            while (within <= MOST_DEPTH && text.piece == NAME_NOT) {
                if (within == MOST_DEPTH) {
                    return text.refuse(FAULT_DEPTH);
                }
                within++;
                text.next();
            }
            boolean fine = text.piece == '[' ? readBrackets(within) : readComparison();
            if (fine && (within - depth) % 2 != 0) {
                put(DO_NOT);
            }
            return fine;
        }

        private boolean readBrackets(int depth) {
            if (depth >= MOST_DEPTH) {
                return text.refuse(FAULT_DEPTH);
            }
            text.next();
            if (!readTest(depth + 1)) {
                return false;
            }
            if (text.piece != ']') {
                return text.refuse(FAULT_SIGN);
            }
            text.next();
            return true;
        }

        private boolean readComparison() {
            if (!readSum()) {
                return false;
            }
            int order = comparing(text.piece);
            if (order == NONE) {
                return text.refuse(FAULT_SIGN);
            }
            if (parts >= MOST_PARTS) {
                return text.refuse(FAULT_PARTS);
            }
            parts++;
            text.next();
            if (!readSum()) {
                return false;
            }
            put(order);
            return true;
        }

        /** A + or - waits for the * / % behind it, as these bind closer. */
        private boolean readSum() {
            int loose = NONE;
            int tight = NONE;
            for (int i = 0; i <= MOST_PARTS; i++) {
                int why = faultOfValue();
                if (why != NONE) {
                    return text.refuse(why);
                }
                parts++;
                put(codeOfValue());
                put(tight);
                text.next();
                int order = reckoning(text.piece);
                boolean bindsClose = order == DO_TIMES || order == DO_DIVIDE || order == DO_REST;
                tight = bindsClose ? order : NONE;
                if (!bindsClose) {
                    put(loose);
                    loose = order;
                }
                if (order == NONE) {
                    return true;
                }
                text.next();
            }
            return text.refuse(FAULT_PARTS);
        }

        /** Why the piece that is being looked at can be no value here; NONE: it can. */
        private int faultOfValue() {
            int word = text.piece - FIRST_NAME;
            boolean isNumber = text.piece == NUMBER;
            if (!isNumber && (word < 0 || word >= WORDS)) {
                return FAULT_SIGN;
            }
            if (isNumber && text.number < 0) {
                return FAULT_NUMBER;
            }
            return parts >= MOST_PARTS ? FAULT_PARTS : NONE;
        }

        private int codeOfValue() {
            if (text.piece == NUMBER) {
                return text.number << ORDER_BITS | DO_NUMBER;
            }
            return text.piece - FIRST_NAME << ORDER_BITS | DO_WORD;
        }

        private void put(int order) {
            if (order != NONE && size < code.length) {
                code[size] = order;
                size++;
            }
        }

        private static int comparing(int piece) {
            switch (piece) {
                case '<':
                    return DO_LESS;
                case AT_MOST:
                    return DO_AT_MOST;
                case '=':
                    return DO_SAME;
                case AT_LEAST:
                    return DO_AT_LEAST;
                case '>':
                    return DO_MORE;
                default:
                    return NONE;
            }
        }

        private static int reckoning(int piece) {
            switch (piece) {
                case '+':
                    return DO_PLUS;
                case '-':
                    return DO_MINUS;
                case '*':
                    return DO_TIMES;
                case '/':
                    return DO_DIVIDE;
                case '%':
                    return DO_REST;
                default:
                    return NONE;
            }
        }
    }

    /** A rule as code: of each clause its sum, then its test, where the row of starts says. */
    private static final class Rule {
        private final int[] code;
        private final int[] starts;

        Rule(int[] code, int[] starts) {
            this.code = code;
            this.starts = starts;
        }

        long sum(long[] words, long[] stack) {
            for (int i = 0; i + 2 < starts.length; i += 2) {
                int test = starts[i + 1];
                int behind = starts[i + 2];
                if (test == behind || run(test, behind, words, stack) != 0) {
                    return run(starts[i], test, words, stack);
                }
            }
            return 0;
        }

        private long run(int from, int to, long[] words, long[] stack) {
            int high = 0;
            for (int i = from; i < to && i >= 0 && i < code.length; i++) {
                int order = code[i] & ORDER_MASK;
                int with = code[i] >> ORDER_BITS;
                if (order == DO_NUMBER && high < stack.length) {
                    stack[high] = with;
                    high++;
                } else if (order == DO_WORD && high < stack.length && with < words.length) {
                    stack[high] = words[with];
                    high++;
                } else if (order == DO_NOT && high > 0) {
                    stack[high - 1] = 1 - stack[high - 1];
                } else if (high > 1) {
                    high--;
                    stack[high - 1] = join(order, stack[high - 1], stack[high]);
                }
            }
            return high > 0 ? stack[high - 1] : 0;
        }

        private static long join(int order, long a, long b) {
            switch (order) {
                case DO_PLUS:
                    return a + b;
                case DO_MINUS:
                    return a - b;
                case DO_TIMES:
                    return a * b;
                case DO_DIVIDE:
                    return b == 0 ? 0 : a / b;
                case DO_REST:
                    return b == 0 ? 0 : a % b;
                case DO_LESS:
                    return a < b ? 1 : 0;
                case DO_AT_MOST:
                    return a <= b ? 1 : 0;
                case DO_SAME:
                    return a == b ? 1 : 0;
                case DO_AT_LEAST:
                    return a >= b ? 1 : 0;
                case DO_MORE:
                    return a > b ? 1 : 0;
                case DO_AND:
                    return a & b;
                default:
                    return a | b;
            }
        }
    }

    /** Who has what, and who rues how much, at a turn. */
    private static final class Table {
        final Feast feast;
        int first;
        int turn;
        final int[] owners = new int[MOST_SLICES];
        final int[] rues = new int[MOST_GUESTS];

        Table(Feast feast) {
            this.feast = feast;
        }

        /** All as the text told it. */
        void layOut() {
            first = feast.first;
            turn = 0;
            Arrays.fill(owners, NONE);
            System.arraycopy(feast.rues, 0, rues, 0, rues.length);
        }

        void copyFrom(Table other) {
            first = other.first;
            turn = other.turn;
            System.arraycopy(other.owners, 0, owners, 0, owners.length);
            System.arraycopy(other.rues, 0, rues, 0, rues.length);
        }

        int guestAtTurn() {
            return feast.guests > 0 ? (first + turn) % feast.guests : NONE;
        }

        boolean isFree(int slice) {
            return feast.hasSlice(slice) && owners[slice] == NONE;
        }

        /** NONE also for a slice that there is not. */
        int ownerOf(int slice) {
            return feast.hasSlice(slice) ? owners[slice] : NONE;
        }

        /** As bits; of NONE those that are free. */
        int slicesOf(int guest) {
            int set = 0;
            for (int slice = 0; slice < feast.slices; slice++) {
                if (owners[slice] == guest) {
                    set |= 1 << slice;
                }
            }
            return set;
        }

        int worthOwn(int guest) {
            int sum = 0;
            for (int slice = 0; slice < feast.slices; slice++) {
                if (owners[slice] == guest) {
                    sum += feast.worth(slice, guest);
                }
            }
            return sum;
        }

        boolean isContent(int guest) {
            return feast.hasGuest(guest) && worthOwn(guest) >= rues[guest];
        }

        int contented() {
            int set = 0;
            for (int guest = 0; guest < feast.guests; guest++) {
                if (isContent(guest)) {
                    set |= 1 << guest;
                }
            }
            return set;
        }

        void addRue(int guest) {
            if (feast.hasGuest(guest)) {
                rues[guest] = Math.min(MOST_RUE, rues[guest] + feast.stirring);
            }
        }

        void change(int one, int other) {
            if (feast.hasSlice(one) && feast.hasSlice(other)) {
                int who = owners[one];
                owners[one] = owners[other];
                owners[other] = who;
            }
        }
    }

    /** All that an image keeps. */
    private static final class State {
        final Feast feast;
        final Table table;
        int inForce = NONE;
        int x;
        int notes;
        final int[] noteTurns = new int[MOST_NOTES];
        final int[] noteSlices = new int[MOST_NOTES];
        final int[] noteGuests = new int[MOST_NOTES];

        State() {
            Feast own = new Feast();
            feast = own;
            table = new Table(own);
        }

        void copyFrom(State other) {
            feast.copyFrom(other.feast);
            table.copyFrom(other.table);
            inForce = other.inForce;
            x = other.x;
            notes = other.notes;
            System.arraycopy(other.noteTurns, 0, noteTurns, 0, MOST_NOTES);
            System.arraycopy(other.noteSlices, 0, noteSlices, 0, MOST_NOTES);
            System.arraycopy(other.noteGuests, 0, noteGuests, 0, MOST_NOTES);
        }

        boolean addNote(int turn, int slice, int guest) {
            if (notes < 0 || notes >= MOST_NOTES) {
                return false;
            }
            noteTurns[notes] = turn;
            noteSlices[notes] = slice;
            noteGuests[notes] = guest;
            notes++;
            return true;
        }
    }

    /** Lets turns go by, at the real table or at one that is only looked at. */
    private static final class Turns {
        private final Feast feast;
        private final long[] words = new long[WORDS];
        private final long[] stack = new long[MOST_PARTS];

        Turns(Feast feast) {
            this.feast = feast;
        }

        /** The slice that is taken, or NONE; none of the kinds kept (as bits) is. */
        int goOn(Table table, Rule rule, int kept) {
            int guest = table.guestAtTurn();
            int taken = NONE;
            if (guest != NONE && !table.isContent(guest)) {
                taken = rule == null ? worthiest(table, guest, kept) : ruledBest(table, guest, rule, kept);
            }
            if (feast.hasSlice(taken)) {
                table.owners[taken] = guest;
            }
            table.turn++;
            return taken;
        }

        private int worthiest(Table table, int guest, int kept) {
            int best = NONE;
            int most = 0;
            for (int slice = 0; slice < feast.slices; slice++) {
                int worth = feast.worth(slice, guest);
                if (worth > most && canTake(table, slice, kept)) {
                    most = worth;
                    best = slice;
                }
            }
            return best;
        }

        private int ruledBest(Table table, int guest, Rule rule, int kept) {
            tellGuest(table, guest);
            int best = NONE;
            long most = 0;
            for (int slice = 0; slice < feast.slices; slice++) {
                if (canTake(table, slice, kept)) {
                    tellSlice(table, guest, slice);
                    long sum = rule.sum(words, stack);
                    if (sum > most) {
                        most = sum;
                        best = slice;
                    }
                }
            }
            return best;
        }

        private boolean canTake(Table table, int slice, int kept) {
            return table.isFree(slice) && (kept >> feast.kinds[slice] & 1) == 0;
        }

        private void tellGuest(Table table, int guest) {
            words[W_GUEST] = guest;
            words[W_HAS] = table.worthOwn(guest);
            words[W_RUE] = table.rues[guest];
            words[W_FREE] = Integer.bitCount(table.slicesOf(NONE));
            words[W_MINE] = Integer.bitCount(table.slicesOf(guest));
            words[W_TURN] = table.turn;
        }

        private void tellSlice(Table table, int guest, int slice) {
            int last = feast.slices - 1;
            int ahead = slice == 0 ? last : slice - 1;
            int behind = slice == last ? 0 : slice + 1;
            int beside = table.ownerOf(ahead) == guest ? 1 : 0;
            beside += table.ownerOf(behind) == guest ? 1 : 0;
            words[W_SLICE] = slice;
            words[W_KIND] = feast.kinds[slice];
            words[W_SIZE] = feast.sizes[slice];
            words[W_LIKES] = feast.liking(guest, feast.kinds[slice]);
            words[W_WORTH] = feast.worth(slice, guest);
            words[W_BESIDE] = beside;
        }
    }

    /** The last acts, in a ring, so that the oldest is forgotten for one too many. */
    private static final class Acts {
        static final int TURN = 0;
        static final int TAKE = 1;
        static final int LAY = 2;
        static final int SWAP = 3;
        static final int STIR = 4;
        private static final int MOST = 20;

        int kept;
        private int next;
        private final int[] acts = new int[MOST];
        private final int[] ones = new int[MOST];
        private final int[] others = new int[MOST];

        void forget() {
            kept = 0;
        }

        void add(int act, int one, int other) {
            if (next < 0 || next >= MOST) {
                next = 0;
            }
            acts[next] = act;
            ones[next] = one;
            others[next] = other;
            next = (next + 1) % MOST;
            kept = Math.min(MOST, kept + 1);
        }

        /** How many more can be taken back; NONE, if none could. */
        int takeBack(Table table) {
            if (kept <= 0) {
                return NONE;
            }
            next = (next + MOST - 1) % MOST;
            kept--;
            if (next >= 0) {
                restore(table, acts[next], ones[next], others[next]);
            }
            return kept;
        }

        private static void restore(Table table, int act, int one, int other) {
            switch (act) {
                case TURN:
                    table.turn--;
                    setOwner(table, one, NONE);
                    break;
                case TAKE:
                case LAY:
                    setOwner(table, one, other);
                    break;
                case SWAP:
                    table.change(one, other);
                    break;
                default:
                    if (table.feast.hasGuest(one)) {
                        table.rues[one] = other;
                    }
                    break;
            }
        }

        private static void setOwner(Table table, int slice, int guest) {
            if (table.feast.hasSlice(slice)) {
                table.owners[slice] = guest;
            }
        }
    }

    /** What guests have, laid on the scales of each of them. */
    private static final class Shares {
        private final Feast feast;
        private final int[] scales = new int[MOST_GUESTS * MOST_GUESTS];
        int swaps;
        int one;
        int other;

        Shares(Feast feast) {
            this.feast = feast;
        }

        /** Who envies anybody, as bits. */
        int envious(Table table) {
            weigh(table);
            int set = 0;
            for (int guest = 0; guest < feast.guests; guest++) {
                if (envies(guest)) {
                    set |= 1 << guest;
                }
            }
            return set;
        }

        /** Lays all that is had on the scales. */
        void weigh(Table table) {
            Arrays.fill(scales, 0);
            for (int slice = 0; slice < feast.slices; slice++) {
                lean(slice, table.owners[slice], 1);
            }
        }

        /** Lays a slice of a guest on the scales (sign 1), or takes it off (sign -1). */
        void lean(int slice, int guest, int sign) {
            if (!feast.hasGuest(guest)) {
                return;
            }
            for (int judge = 0; judge < feast.guests; judge++) {
                scales[judge * MOST_GUESTS + guest] += sign * feast.worth(slice, judge);
            }
        }

        boolean nobodyEnvies() {
            for (int guest = 0; guest < feast.guests; guest++) {
                if (envies(guest)) {
                    return false;
                }
            }
            return true;
        }

        private boolean envies(int guest) {
            int row = guest * MOST_GUESTS;
            for (int whose = 0; whose < feast.guests; whose++) {
                if (scales[row + whose] > scales[row + guest]) {
                    return true;
                }
            }
            return false;
        }

        /** The set of fewest free slices that make up for what a guest rues, or WITHOUT. */
        int fewestSlices(Table table, int guest) {
            int free = table.slicesOf(NONE);
            int lack = table.rues[guest] - table.worthOwn(guest);
            int best = WITHOUT;
            int fewest = MOST_SLICES + 1;
            for (int set = 0; set < 1 << feast.slices; set++) {
                if ((set & ~free) == 0 && Integer.bitCount(set) < fewest && worthOfSet(set, guest) >= lack) {
                    best = set;
                    fewest = Integer.bitCount(set);
                }
            }
            return best;
        }

        private int worthOfSet(int set, int guest) {
            int sum = 0;
            for (int slice = 0; slice < feast.slices; slice++) {
                if ((set >> slice & 1) != 0) {
                    sum += feast.worth(slice, guest);
                }
            }
            return sum;
        }

        void findSwaps(Table table) {
            swaps = 0;
            one = WITHOUT;
            other = WITHOUT;
            for (int less = 0; less < feast.slices; less++) {
                for (int greater = less + 1; greater < feast.slices; greater++) {
                    if (bothGain(table, less, greater)) {
                        one = swaps == 0 ? less : one;
                        other = swaps == 0 ? greater : other;
                        swaps++;
                    }
                }
            }
        }

        private boolean bothGain(Table table, int less, int greater) {
            int who = table.ownerOf(less);
            int whoElse = table.ownerOf(greater);
            return who != NONE && whoElse != NONE && who != whoElse
                && feast.worth(greater, who) > feast.worth(less, who)
                && feast.worth(less, whoElse) > feast.worth(greater, whoElse);
        }

        int penceOf(Table table, int much, int guest) {
            int all = 0;
            for (int each = 0; each < feast.guests; each++) {
                all += table.rues[each];
            }
            boolean alike = all == 0;
            int whole = alike ? feast.guests : all;
            if (whole <= 0) {
                return NONE;
            }
            int own = much * (alike ? 1 : table.rues[guest]);
            int over = much;
            int ahead = 0;
            for (int each = 0; each < feast.guests; each++) {
                int due = much * (alike ? 1 : table.rues[each]);
                over -= due / whole;
                if (due % whole > own % whole || due % whole == own % whole && each < guest) {
                    ahead++;
                }
            }
            return own / whole + (ahead < over ? 1 : 0);
        }
    }

    /** Tries all ways to part the cake, and all games. */
    private static final class Searches {
        private final Feast feast;
        private final Table table;
        private final Shares shares;
        private final int[] owners = new int[MOST_SLICES];
        private final int[] found = new int[MOST_SLICES];
        private final int[] pieces = new int[MOST_GUESTS];
        int most;
        int ways;
        int firstTaken;

        Searches(Table table, Shares shares) {
            this.table = table;
            this.shares = shares;
            this.feast = table.feast;
        }

        int ownerFound(int slice) {
            return feast.hasSlice(slice) ? found[slice] : WITHOUT;
        }

        /** Whether the cake can be cut round. */
        boolean cutRound() {
            if (feast.guests < 1 || feast.slices < feast.guests) {
                return false;
            }
            Arrays.fill(pieces, 0);
            most = NONE;
            cutFrom(0, 0);
            return true;
        }

        /**
         * Cuts from a slice on; used are the guests who have a piece, as bits. The ways come in
         * the order asked for, so that the first of the best is found first.
         */
        private void cutFrom(int slice, int used) {
            if (Integer.bitCount(used) + feast.slices - slice < feast.guests) {
                return;
            }
            if (slice >= feast.slices) {
                keepCut();
                return;
            }
            for (int guest = 0; guest < feast.guests; guest++) {
                if (mayFollow(guest, slice, used)) {
                    int worth = feast.worth(slice, guest);
                    owners[slice] = guest;
                    pieces[guest] += worth;
                    cutFrom(slice + 1, used | 1 << guest);
                    pieces[guest] -= worth;
                }
            }
        }

        private boolean mayFollow(int guest, int slice, int used) {
            if (slice == 0) {
                return true;
            }
            int last = owners[slice - 1];
            if (guest == last) {
                return true;
            }
            // The first piece may go on round the end of the ring; any other one is closed here.
            if (last != owners[0] && pieces[last] <= most) {
                return false;
            }
            if ((used >> guest & 1) == 0) {
                return true;
            }
            return guest == owners[0] && used == (1 << feast.guests) - 1;
        }

        private void keepCut() {
            int least = pieces[0];
            for (int guest = 1; guest < feast.guests; guest++) {
                least = Math.min(least, pieces[guest]);
            }
            if (least > most) {
                most = least;
                System.arraycopy(owners, 0, found, 0, MOST_SLICES);
            }
        }

        void shareFairly() {
            ways = 0;
            shares.weigh(table);
            shareFrom(0);
        }

        private void shareFrom(int slice) {
            if (slice >= feast.slices) {
                keepShare();
                return;
            }
            if (!table.isFree(slice)) {
                shareFrom(slice + 1);
                return;
            }
            for (int guest = 0; guest < feast.guests; guest++) {
                owners[slice] = guest;
                shares.lean(slice, guest, 1);
                shareFrom(slice + 1);
                shares.lean(slice, guest, -1);
            }
        }

        private void keepShare() {
            if (shares.nobodyEnvies()) {
                if (ways == 0) {
                    System.arraycopy(owners, 0, found, 0, MOST_SLICES);
                }
                ways++;
            }
        }

        void playGame(int one, int other, int n) {
            int free = table.slicesOf(NONE);
            int now = table.worthOwn(one) - table.worthOwn(other);
            most = now;
            firstTaken = NONE;
            for (int slice = 0; slice < feast.slices; slice++) {
                if ((free >> slice & 1) != 0) {
                    int then = now + feast.worth(slice, one) - play(other, one, free ^ 1 << slice, n - 1);
                    if (firstTaken == NONE || then > most) {
                        most = then;
                        firstTaken = slice;
                    }
                }
            }
        }

        /** By how much the one whose turn it is gains more than the other, from here on. */
        private int play(int mover, int waiter, int free, int n) {
            if (n <= 0 || free == 0) {
                return 0;
            }
            int best = 0;
            boolean any = false;
            for (int slice = 0; slice < feast.slices; slice++) {
                if ((free >> slice & 1) != 0) {
                    int gain = feast.worth(slice, mover) - play(waiter, mover, free ^ 1 << slice, n - 1);
                    best = any ? Math.max(best, gain) : gain;
                    any = true;
                }
            }
            return best;
        }
    }

    /** Answers what is asked about turns to come, or turns from the begin on, at a table of its own. */
    private static final class Outlook {
        private final State now;
        private final Feast feast;
        private final Rule[] rules;
        private final Turns turns;
        private final Shares shares;
        private final Table table;
        private final int[] seen = new int[(MOST_RULES + 1) * MOST_SLICES];
        int which;
        int much;

        Outlook(State now, Rule[] rules, Turns turns, Shares shares) {
            this.now = now;
            this.feast = now.feast;
            this.rules = rules;
            this.turns = turns;
            this.shares = shares;
            this.table = new Table(now.feast);
        }

        /** Null: none is. */
        Rule ruleInForce() {
            return ruleOf(now.inForce);
        }

        private Rule ruleOf(int number) {
            return number >= 0 && number < rules.length ? rules[number] : null;
        }

        private void goOn(int n, Rule rule, int kept) {
            for (int i = 0; i < n; i++) {
                turns.goOn(table, rule, kept);
            }
        }

        Table after(int n) {
            table.copyFrom(now.table);
            goOn(n, ruleInForce(), 0);
            return table;
        }

        int firstTurnWithNothing() {
            table.copyFrom(now.table);
            for (int i = 0; i < MOST_AHEAD; i++) {
                if (table.slicesOf(NONE) == 0) {
                    return table.turn;
                }
                turns.goOn(table, ruleInForce(), 0);
            }
            return WITHOUT;
        }

        void bestToBegin(int guest, int n) {
            much = NONE;
            for (int first = 0; first < feast.guests; first++) {
                table.copyFrom(now.table);
                table.first = first;
                goOn(n, ruleInForce(), 0);
                int worth = table.worthOwn(guest);
                if (worth > much) {
                    much = worth;
                    which = first;
                }
            }
        }

        void bestToLeave(int n) {
            much = NONE;
            for (int leaver = NONE; leaver < feast.guests; leaver++) {
                table.copyFrom(now.table);
                if (leaver != NONE) {
                    table.rues[leaver] = 0;
                }
                goOn(n, ruleInForce(), 0);
                int others = leaver == NONE ? table.contented() : table.contented() & ~(1 << leaver);
                if (Integer.bitCount(others) > much) {
                    much = Integer.bitCount(others);
                    which = leaver;
                }
            }
        }

        /** WITHOUT for both: by none. */
        void fewestKept(int n) {
            much = WITHOUT;
            which = WITHOUT;
            for (int kinds = 0; kinds < 1 << KINDS; kinds++) {
                int many = Integer.bitCount(kinds);
                if (much == WITHOUT || many < much) {
                    table.copyFrom(now.table);
                    goOn(n, ruleInForce(), kinds);
                    if (shares.envious(table) == 0) {
                        much = many;
                        which = kinds;
                    }
                }
            }
        }

        /** The rules that are as the notes say, as bits: none is bit 0, rule r bit r + 1. */
        int fittingRules(int count) {
            int last = 0;
            for (int i = 0; i < now.notes && i < MOST_NOTES; i++) {
                last = Math.max(last, now.noteTurns[i]);
            }
            int set = 0;
            for (int number = NONE; number < count; number++) {
                if (fits(ruleOf(number), last)) {
                    set |= 1 << number + 1;
                }
            }
            return set;
        }

        /** Notes speak of what is behind a turn, turn 0 too: it goes by ahead of their being looked at. */
        private boolean fits(Rule rule, int last) {
            table.layOut();
            for (int n = 0; n <= last; n++) {
                turns.goOn(table, rule, 0);
                if (!notesHold(n)) {
                    return false;
                }
            }
            return true;
        }

        private boolean notesHold(int n) {
            for (int i = 0; i < now.notes && i < MOST_NOTES; i++) {
                if (now.noteTurns[i] == n && table.ownerOf(now.noteSlices[i]) != now.noteGuests[i]) {
                    return false;
                }
            }
            return true;
        }

        /** WITHOUT for both: there is nothing to look at. */
        void bestToLookAt(int n, int fitting) {
            which = WITHOUT;
            much = WITHOUT;
            if (fitting == 0) {
                return;
            }
            watch(n, fitting);
            for (int slice = 0; slice < feast.slices; slice++) {
                int alike = mostAlike(slice, fitting);
                if (which == WITHOUT || alike < much) {
                    which = slice;
                    much = alike;
                }
            }
        }

        /** Writes down who has what behind the n-th turn by each of the rules. */
        private void watch(int n, int fitting) {
            for (int i = 0; i <= MOST_RULES; i++) {
                if ((fitting >> i & 1) != 0) {
                    table.layOut();
                    for (int turn = 0; turn <= n; turn++) {
                        turns.goOn(table, ruleOf(i - 1), 0);
                    }
                    System.arraycopy(table.owners, 0, seen, i * MOST_SLICES, MOST_SLICES);
                }
            }
        }

        private int mostAlike(int slice, int fitting) {
            int most = 0;
            for (int guest = NONE; guest < feast.guests; guest++) {
                int alike = 0;
                for (int i = 0; i <= MOST_RULES; i++) {
                    if ((fitting >> i & 1) != 0 && seen[i * MOST_SLICES + slice] == guest) {
                        alike++;
                    }
                }
                most = Math.max(most, alike);
            }
            return most;
        }

        /** Which: how many are free; much: how many have less than they rue; of all times. */
        void burn(int m, int n, int p) {
            int x = now.x;
            which = 0;
            much = 0;
            for (int time = 0; time < m; time++) {
                table.copyFrom(now.table);
                for (int i = 0; i < n; i++) {
                    x = afterDraw(x);
                    if (x / 65536 % 100 < p && feast.guests > 0) {
                        x = afterDraw(x);
                        table.addRue(x / 65536 % feast.guests);
                    }
                    turns.goOn(table, ruleInForce(), 0);
                }
                which += Integer.bitCount(table.slicesOf(NONE));
                much += feast.guests - Integer.bitCount(table.contented());
            }
        }

        private static int afterDraw(int x) {
            return x * 1103515245 + 12345 & 2147483647;
        }
    }
}
