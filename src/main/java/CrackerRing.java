/** People in a ring who pull crackers, arms crossed: a small language, its odds, hats, acts, questions and images. */
public final class CrackerRing {
    public static final int NONE = -1;
    public static final long NOTHING = -1000000000000000L;

    private static final int FED_AT_ONCE = 20;
    private static final int TAPE_MOST = 1600;
    private static final int STATEMENTS_MOST = 60;
    private static final int PEOPLE_MOST = 8;
    private static final int HANDS_MOST = 16;
    private static final int BOXES_MOST = 4;
    private static final int ARM_MOST = 99;
    private static final int HUNDRED = 100;
    private static final int LOW_MOST = 9;
    private static final int LOW_WITHOUT = 5;
    private static final int HATS_TOLD_MOST = 9;
    private static final int HATS_MOST = 99;
    private static final int COUNT_MOST = 9999;
    private static final int DINNERS_AT_ONCE = 50;
    private static final int ACTS_MOST = 20;
    private static final int OPEN_MOST = 6;
    private static final int NUMBER_MOST = 9999;
    private static final int DIGITS_MOST = 4;
    private static final int SUM_MOST = 1000000;
    private static final int MIGHT_MOST = 999;
    private static final int WHOLE = 10000;
    private static final int HOLDING_ROUNDS = 12;
    private static final int LEFT_ROUNDS = 60;

    private static final int HANDS = 2;
    private static final int RIGHT = 0;
    private static final int LEFT = 1;
    private static final int GRIP_SEAM = 0;
    private static final int GRIP_PAPER = 1;
    private static final int GRIP_THUMB = 2;
    private static final int WAYS_TO_HOLD = 30;

    private static final int FAULT_TEXT = 1;
    private static final int FAULT_NUMBER = 2;
    private static final int FAULT_NAME = 3;
    private static final int FAULT_OPEN = 4;
    private static final int FAULT_TOO_MANY = 5;

    private static final int LETTERS_MOST = 6;
    private static final int LETTER_BASE = 27;
    private static final int[] LETTER_WEIGHTS = {1, 27, 729, 19683, 531441, 14348907};

    /** The OWN WORDS, then those that a QUESTION alone knows, each with a blank behind it. */
    private static final String WORDS = "person right left holds seam paper thumb box duds hats pull slip bang arm low other number wins or and not all min max first last often total most least ";
    private static final int WORDS_MOST = 30;
    private static final int OWN_WORDS = 24;
    private static final int W_PERSON = 0;
    private static final int W_RIGHT = 1;
    private static final int W_LEFT = 2;
    private static final int W_HOLDS = 3;
    private static final int W_SEAM = 4;
    private static final int W_PAPER = 5;
    private static final int W_THUMB = 6;
    private static final int W_BOX = 7;
    private static final int W_DUDS = 8;
    private static final int W_HATS = 9;
    private static final int W_PULL = 10;
    private static final int W_SLIP = 11;
    private static final int W_BANG = 12;
    private static final int W_ARM = 13;
    private static final int W_LOW = 14;
    private static final int W_OTHER = 15;
    private static final int W_NUMBER = 16;
    private static final int W_WINS = 17;
    private static final int W_OR = 18;
    private static final int W_AND = 19;
    private static final int W_NOT = 20;
    private static final int W_ALL = 21;
    private static final int W_MIN = 22;
    private static final int W_MAX = 23;
    private static final int W_FIRST = 24;
    private static final int W_LAST = 25;
    private static final int W_OFTEN = 26;
    private static final int W_TOTAL = 27;
    private static final int W_MOST = 28;
    private static final int W_LEAST = 29;

    private static final int OP_NUMBER = 0;
    private static final int OP_FACT = 1;
    private static final int OP_NOT = 2;
    private static final int OP_WINS = 3;
    private static final int OP_ADD = 4;
    private static final int OP_SUBTRACT = 5;
    private static final int OP_MULTIPLY = 6;
    private static final int OP_DIVIDE = 7;
    private static final int OP_MIN = 8;
    private static final int OP_MAX = 9;
    private static final int OP_LESS = 10;
    private static final int OP_MORE = 11;
    private static final int OP_SAME = 12;
    private static final int OP_AND = 13;
    private static final int OP_OR = 14;
    private static final int ARGUMENT_BITS = 14;
    private static final int ARGUMENT_MASK = 16383;
    private static final int STACK_MOST = 64;

    private static final int FACTS_MOST = 9;
    private static final int FACT_ARM = 0;
    private static final int FACT_LOW = 1;
    private static final int FACT_OTHER = 2;
    private static final int FACT_SEAM = 3;
    private static final int FACT_PAPER = 4;
    private static final int FACT_HAND_THUMB = 5;
    private static final int FACT_NUMBER = 0;
    private static final int FACT_RIGHT = 1;
    private static final int FACT_LEFT = 2;
    private static final int FACT_HATS = 3;
    private static final int FACT_THUMBS = 4;
    private static final int FACT_RIGHT_CRACKER = 5;
    private static final int FACT_LEFT_CRACKER = 6;
    private static final int FACT_RIGHT_ODDS = 7;
    private static final int FACT_LEFT_ODDS = 8;

    private static final int TELLS_MOST = 7;
    private static final int TELLS_MIGHT = 0;
    private static final int TELLS_SLIP = 2;
    private static final int TELLS_HAS_IT = 4;
    private static final int TELLS_NOBODY = 6;

    private static final int SEED_MASK = 2147483647;
    private static final long ABOVE_ALL_WAYS = 1000000000000L;

    private static final int FLOW_MOST = 8;
    private static final int FLOWS = 17;
    private static final int FAR = 1000000;

    private static final int IMAGE_HEAD = 6;
    private static final int IMAGE_EACH = 6;
    private static final int IMAGE_MOST = 55;
    private static final int CHECK_START = 227;
    private static final int CHECK_FACTOR = 3;
    private static final int CHECK_MODULUS = 251;

    private static final int REFUSALS = 6;
    private static final int REFUSED_TAPE = 0;
    private static final int REFUSED_TABLE = 1;
    private static final int REFUSED_DINNER = 2;
    private static final int REFUSED_HATS = 3;
    private static final int REFUSED_UNDO = 4;
    private static final int REFUSED_SEED = 5;

    private final int[] tape = new int[TAPE_MOST];
    private int taped = 0;
    private final Text text = new Text();
    private final Sums sums = new Sums(text);
    private Table table = new Table();
    private Table draft = new Table();
    private final Question question = new Question(text, sums);
    private final State now = new State();
    private final History history = new History();
    private final Pull pull = new Pull(table);
    private final Holds holds = new Holds(pull);
    private final Rows rows = new Rows(pull);
    private final Gifts handed = new Gifts();
    private final int[] picture = new int[IMAGE_MOST];
    private int pictured = 0;
    private int drawn = 1;
    private int latestFault = 0;
    private int latestPlace = NONE;
    private final int[] refused = new int[REFUSALS];

    public CrackerRing() {
    }

    // ---- the tape, the TABLE

    public int feed(int a, int b, int c, int d, int e) {
        if (taped + FED_AT_ONCE > TAPE_MOST) {
            return refuse(REFUSED_TAPE);
        }
        tapeNumber(a);
        tapeNumber(b);
        tapeNumber(c);
        tapeNumber(d);
        tapeNumber(e);
        return taped;
    }

    private void tapeNumber(int number) {
        for (int shift = 24; shift >= 0; shift -= 8) {
            if (taped < tape.length) {
                tape[taped] = number >> shift & 255;
                taped++;
            }
        }
    }

    private int refuse(int kind) {
        refused[kind]++;
        return NONE;
    }

    private boolean deny(int kind) {
        refused[kind]++;
        return false;
    }

    public boolean end(int n) {
        if (n < 0 || n > taped) {
            return deny(REFUSED_TAPE);
        }
        taped = n;
        return true;
    }

    public int table() {
        readTape();
        draft.readAll(text, sums);
        keepFault();
        if (latestFault != 0) {
            return refuse(REFUSED_TABLE);
        }
        Table before = table;
        table = draft;
        draft = before;
        pull.table = table;
        now.begin(table);
        history.forget();
        forgetAnswers();
        return table.statements;
    }

    private void readTape() {
        text.read(tape, taped);
        taped = 0;
    }

    private void keepFault() {
        latestFault = text.fault;
        latestPlace = text.faultPlace;
    }

    private void forgetAnswers() {
        holds.known = false;
        rows.known = false;
    }

    public int fault(int what) {
        if (what == 0) {
            return latestFault;
        }
        return what == 1 ? latestPlace : NONE;
    }

    // ---- what there is

    public int has(int what) {
        switch (what) {
            case 0: return now.people;
            case 1: return now.crackers();
            case 2: return table.boxes;
            case 3: return table.bang;
            case 4: return now.dinners;
            case 5: return now.bangs;
            case 6: return now.under;
            case 7: return now.allHats();
            case 8: return now.hatless();
            case 9: return history.count;
            default: return NONE;
        }
    }

    private boolean isSeat(int seat) {
        return seat >= 0 && seat < now.people;
    }

    /** Whether there is such a seat, and a CRACKER for the HANDS of who sits there. */
    private boolean pulls(int seat) {
        return isSeat(seat) && now.crackers() > 0;
    }

    private boolean isHand(int hand) {
        return hand == RIGHT || hand == LEFT;
    }

    public int letter(int kind, int which, int k) {
        if (k < 0 || k >= LETTERS_MOST) {
            return NONE;
        }
        if (kind == 0 && isSeat(which)) {
            return letterOf(table.names[now.who[which]], k);
        }
        if (kind == 1 && which >= 0 && which < table.boxes) {
            return letterOf(table.boxNames[which], k);
        }
        return NONE;
    }

    private int letterOf(int name, int k) {
        return name / LETTER_WEIGHTS[k] % LETTER_BASE;
    }

    public int seat(int seat, int what) {
        if (!isSeat(seat)) {
            return NONE;
        }
        int right = now.handOf(seat, RIGHT);
        int left = now.handOf(seat, LEFT);
        switch (what) {
            case 0: return now.who[seat];
            case 1: return now.hats[now.who[seat]];
            case 2: return table.arms[right];
            case 3: return table.arms[left];
            case 4: return now.grips[right];
            case 5: return now.grips[left];
            case 6: return now.lows[right];
            case 7: return now.lows[left];
            default: return NONE;
        }
    }

    public int box(int box) {
        return box >= 0 && box < table.boxes ? table.duds[box] : NONE;
    }

    public int cracker(int cracker, int what) {
        if (cracker < 0 || cracker >= now.crackers() || what < 0 || what >= TELLS_MOST) {
            return NONE;
        }
        pull.work(now, cracker, now.behind(cracker));
        return pull.tells[what];
    }

    // ---- odds

    public int odds(int seat, int hats) {
        if (!pulls(seat) || !isDinnersHats(hats)) {
            return NONE;
        }
        pull.workAll(now);
        return (int) (pull.ways(now, seat, hats) / HUNDRED);
    }

    private boolean isDinnersHats(int hats) {
        return hats >= 0 && hats <= HANDS;
    }

    public int mean(int hats) {
        if (now.crackers() == 0 || !isDinnersHats(hats)) {
            return NONE;
        }
        pull.workAll(now);
        long sum = 0L;
        for (int seat = 0; seat < now.people; seat++) {
            sum += pull.ways(now, seat, hats);
        }
        return thousandths(sum);
    }

    /** The thousandths of what is told in parts of WHOLE times WHOLE. */
    private int thousandths(long parts) {
        return (int) (parts / 100000L);
    }

    public int most() {
        if (now.crackers() == 0) {
            return NONE;
        }
        pull.workAll(now);
        int answer = 0;
        for (int group = 0; group < 1 << now.people; group++) {
            if (Integer.bitCount(group) > answer && pull.canGoWithout(now, group)) {
                answer = Integer.bitCount(group);
            }
        }
        return answer;
    }

    public int seats(int k) {
        if (now.crackers() == 0 || k < NONE || k >= now.people) {
            return NONE;
        }
        rows.search(now);
        return k == NONE ? thousandths(rows.fewest) : rows.best[k];
    }

    public int best(int seat, int hand, int what) {
        if (!pulls(seat) || !isHand(hand) || what < 0 || what > 1) {
            return NONE;
        }
        holds.trial.copyFrom(now);
        holds.findBest(holds.trial, seat, hand);
        return what == 0 ? holds.bestHold : holds.bestOdds;
    }

    public int rests(int seat, int hand) {
        if (now.crackers() == 0 || seat != NONE && (!isSeat(seat) || !isHand(hand))) {
            return NONE;
        }
        holds.settle(now);
        return seat == NONE ? holds.round : holds.rested.holdOf(now.handOf(seat, hand));
    }

    public int thumb(int seat, int hand, int n, int w) {
        if (!pulls(seat) || !isHand(hand) || n < 1 || n > 3 || w < 0 || w > n) {
            return NONE;
        }
        holds.trial.copyFrom(now);
        long thumbed = inARow(holds.oddsWith(holds.trial, seat, hand, GRIP_THUMB), WHOLE, n, w);
        long seamed = inARow(holds.oddsWith(holds.trial, seat, hand, GRIP_SEAM), WHOLE, n, w);
        return share(thumbed, thumbed + seamed, 500);
    }

    /** The odds (each of whole) of hits in a row, then of the others not. */
    private long inARow(int odds, int whole, int n, int hits) {
        long product = 1L;
        for (int i = 0; i < n; i++) {
            product *= i < hits ? odds : whole - odds;
        }
        return product;
    }

    private int share(long part, long all, int without) {
        return all <= 0L ? without : (int) (1000L * part / all);
    }

    public int duds(int m, int d, int what) {
        if (table.boxes == 0 || m < 1 || m > 6 || d < 0 || d > m || what < 0 || what > 1) {
            return NONE;
        }
        int likeliest = 0;
        long most = NONE;
        long all = 0L;
        for (int box = 0; box < table.boxes; box++) {
            long product = inARow(table.duds[box], HUNDRED, m, d);
            all += product;
            if (product > most) {
                most = product;
                likeliest = box;
            }
        }
        return what == 0 ? likeliest : share(most, all, 0);
    }

    public int pairs() {
        if (now.crackers() == 0) {
            return NONE;
        }
        pull.workAll(now);
        int parts = now.people % 2 == 0 ? 0 : WHOLE;
        for (int seat = 0; seat + 1 < now.people; seat += 2) {
            parts += 2 * WHOLE - pull.rightHas[seat] - pull.leftHas[seat];
        }
        return parts / 10;
    }

    // ---- hats handed on

    public int gifts() {
        if (now.crackers() == 0 || now.allHats() < now.people) {
            return NONE;
        }
        return handed.fewest(now);
    }

    public int left(int what) {
        if (now.crackers() == 0 || what < 0 || what > 1) {
            return NONE;
        }
        holds.trial.copyFrom(now);
        int gave = 0;
        for (int round = 0; round <= LEFT_ROUNDS; round++) {
            if (holds.trial.hatless() == 0) {
                return what == 0 ? round : gave;
            }
            gave += holds.trial.giveLeft();
        }
        return NONE;
    }

    // ---- acts

    private void act() {
        history.keep(now);
        forgetAnswers();
    }

    public int dine(int n) {
        if (n < 1 || n > DINNERS_AT_ONCE || now.crackers() == 0 || now.dinners + n > COUNT_MOST) {
            return refuse(REFUSED_DINNER);
        }
        act();
        pull.workAll(now);
        int banged = 0;
        for (int dinner = 0; dinner < n; dinner++) {
            for (int cracker = 0; cracker < now.people; cracker++) {
                pullOne(cracker);
                if (draw(HUNDRED) < table.bang) {
                    banged++;
                }
            }
        }
        now.dinners += n;
        now.bangs = Math.min(COUNT_MOST, now.bangs + banged);
        return banged;
    }

    private void pullOne(int cracker) {
        int x = draw(WHOLE);
        if (x < pull.rightHas[cracker]) {
            now.addHat(cracker);
        } else if (x < pull.rightHas[cracker] + pull.leftHas[cracker]) {
            now.addHat(now.behind(cracker));
        } else {
            now.under = Math.min(COUNT_MOST, now.under + 1);
        }
    }

    /** A DRAW of m; m is above 0. */
    private int draw(int m) {
        // the product wraps around, which leaves its lowest 31 bits right
        drawn = 1103515245 * drawn + 12345 & SEED_MASK;
        return m > 0 ? drawn / 64 % m : 0;
    }

    public boolean hold(int seat, int hand, int grip, int low) {
        if (!isSeat(seat) || !isHand(hand) || grip < 0 || grip > GRIP_THUMB || low < 0 || low > LOW_MOST) {
            return deny(REFUSED_DINNER);
        }
        act();
        int held = now.handOf(seat, hand);
        now.grips[held] = grip;
        now.lows[held] = low;
        return true;
    }

    public boolean give(int from, int to) {
        if (!isSeat(from) || !isSeat(to) || from == to) {
            return deny(REFUSED_HATS);
        }
        int giver = now.who[from];
        int taker = now.who[to];
        if (now.hats[giver] == 0 || now.hats[taker] >= HATS_MOST) {
            return deny(REFUSED_HATS);
        }
        act();
        now.hats[giver]--;
        now.hats[taker]++;
        return true;
    }

    public int pass() {
        if (now.crackers() == 0) {
            return refuse(REFUSED_HATS);
        }
        act();
        return now.giveLeft();
    }

    public boolean change(int first, int second) {
        if (!isSeat(first) || !isSeat(second) || first == second) {
            return deny(REFUSED_HATS);
        }
        act();
        int moved = now.who[first];
        now.who[first] = now.who[second];
        now.who[second] = moved;
        return true;
    }

    public boolean undo() {
        if (history.count == 0) {
            return deny(REFUSED_UNDO);
        }
        history.bringBack(now);
        forgetAnswers();
        return true;
    }

    public boolean seed(int seed) {
        if (seed < 0) {
            return deny(REFUSED_SEED);
        }
        drawn = seed;
        return true;
    }

    // ---- questions

    public long ask() {
        readTape();
        question.readAll();
        keepFault();
        if (latestFault != 0) {
            return NOTHING;
        }
        pull.workAll(now);
        return question.answer(now, pull);
    }

    // ---- images, refusals

    public int image() {
        pictured = 0;
        putTwo(now.dinners);
        putTwo(now.bangs);
        putTwo(now.under);
        for (int seat = 0; seat < now.people; seat++) {
            put(now.who[seat]);
            put(now.hats[now.who[seat]]);
            for (int hand = 0; hand < HANDS; hand++) {
                put(now.grips[now.handOf(seat, hand)]);
                put(now.lows[now.handOf(seat, hand)]);
            }
        }
        put(check(picture, pictured));
        return pictured;
    }

    private void putTwo(int number) {
        put(number / 256);
        put(number % 256);
    }

    private void put(int octet) {
        if (pictured < picture.length) {
            picture[pictured] = octet;
            pictured++;
        }
    }

    private int check(int[] bytes, int count) {
        int c = CHECK_START;
        for (int i = 0; i < count; i++) {
            c = (CHECK_FACTOR * c + bytes[i]) % CHECK_MODULUS;
        }
        return c;
    }

    public int octet(int k) {
        return k >= 0 && k < pictured ? picture[k] : NONE;
    }

    public boolean restore() {
        int length = taped;
        taped = 0;
        if (!isImage(length)) {
            return deny(REFUSED_SEED);
        }
        now.dinners = two(0);
        now.bangs = two(2);
        now.under = two(4);
        for (int seat = 0; seat < now.people; seat++) {
            int at = IMAGE_HEAD + IMAGE_EACH * seat;
            now.who[seat] = tape[at];
            now.hats[tape[at]] = tape[at + 1];
            for (int hand = 0; hand < HANDS; hand++) {
                int held = now.handOf(seat, hand);
                now.grips[held] = tape[at + 2 + 2 * hand];
                now.lows[held] = tape[at + 3 + 2 * hand];
            }
        }
        history.forget();
        forgetAnswers();
        return true;
    }

    private boolean isImage(int length) {
        if (length != IMAGE_HEAD + IMAGE_EACH * now.people + 1 || tape[length - 1] != check(tape, length - 1)) {
            return false;
        }
        if (two(0) > COUNT_MOST || two(2) > COUNT_MOST || two(4) > COUNT_MOST) {
            return false;
        }
        int seated = 0;
        for (int seat = 0; seat < now.people; seat++) {
            int at = IMAGE_HEAD + IMAGE_EACH * seat;
            if (!isSitting(at) || (seated >> tape[at] & 1) == 1) {
                return false;
            }
            seated |= 1 << tape[at];
        }
        return true;
    }

    /** Whether six bytes on the tape can tell of one of the PEOPLE. */
    private boolean isSitting(int at) {
        return tape[at] < now.people && tape[at + 1] <= HATS_MOST
            && tape[at + 2] <= GRIP_THUMB && tape[at + 3] <= LOW_MOST
            && tape[at + 4] <= GRIP_THUMB && tape[at + 5] <= LOW_MOST;
    }

    private int two(int at) {
        return 256 * tape[at] + tape[at + 1];
    }

    public int status(int what) {
        return what >= 0 && what < REFUSALS ? refused[what] : NONE;
    }

    /** A text as words, numbers and signs, each with its first byte; how far it is read; its first FAULT. */
    static final class Text {
        private static final int END = 0;
        private static final int WORD = 1;
        private static final int NUMBER = 2;
        private static final int SIGN = 3;
        private static final int GLUED = 4;

        private final int[] kinds = new int[TAPE_MOST + 1];
        private final int[] starts = new int[TAPE_MOST + 1];
        private final int[] values = new int[TAPE_MOST + 1];
        private final int[] sizes = new int[TAPE_MOST + 1];
        private final int[] words = new int[TAPE_MOST + 1];
        private final int[] known = new int[WORDS_MOST];
        private int count = 0;
        private int running = SIGN;
        private int at = 0;
        private int open = 0;
        int fault = 0;
        int faultPlace = NONE;

        Text() {
            int word = 0;
            int size = 0;
            for (int i = 0; i < WORDS.length() && word < WORDS_MOST; i++) {
                if (WORDS.charAt(i) == ' ') {
                    word++;
                    size = 0;
                } else if (size < LETTERS_MOST) {
                    known[word] += (WORDS.charAt(i) - 'a' + 1) * LETTER_WEIGHTS[size];
                    size++;
                }
            }
        }

        void read(int[] bytes, int length) {
            count = 0;
            running = SIGN;
            at = 0;
            open = 0;
            fault = 0;
            faultPlace = NONE;
            for (int place = 0; place < length && place < bytes.length; place++) {
                take(bytes[place], place);
            }
            start(END, length);
            for (int i = 0; i < count; i++) {
                words[i] = kinds[i] == WORD && sizes[i] <= LETTERS_MOST ? wordOf(values[i]) : NONE;
            }
        }

        private void take(int b, int place) {
            if (b >= 'a' && b <= 'z') {
                if (running != WORD) {
                    start(WORD, place);
                }
                addLetter(b - 'a' + 1);
            } else if (b >= '0' && b <= '9') {
                if (running != NUMBER) {
                    start(NUMBER, place);
                }
                addDigit(b - '0');
            } else if (b == 10 || b == 32) {
                running = SIGN;
            } else {
                start(SIGN, place);
                values[count - 1] = b;
            }
        }

        private void start(int kind, int place) {
            boolean glued = kind == WORD && running == NUMBER || kind == NUMBER && running == WORD;
            if (count < kinds.length) {
                kinds[count] = glued ? GLUED : kind;
                starts[count] = place;
                values[count] = 0;
                sizes[count] = 0;
                count++;
            }
            running = kind;
        }

        private void addLetter(int letter) {
            int last = count - 1;
            if (sizes[last] < LETTERS_MOST) {
                values[last] += letter * LETTER_WEIGHTS[sizes[last]];
            }
            sizes[last]++;
        }

        private void addDigit(int digit) {
            int last = count - 1;
            if (sizes[last] < DIGITS_MOST) {
                values[last] = 10 * values[last] + digit;
            }
            sizes[last]++;
        }

        private int wordOf(int letters) {
            for (int word = 0; word < WORDS_MOST; word++) {
                if (known[word] == letters) {
                    return word;
                }
            }
            return NONE;
        }

        boolean failed() {
            return fault != 0;
        }

        /** The first FAULT stays; behind it the text is as if it had ended, so that nothing more is read. */
        void fail(int kind, int place) {
            if (fault == 0) {
                fault = kind;
                faultPlace = place;
            }
            at = count - 1;
        }

        void failHere() {
            fail(FAULT_TEXT, starts[at]);
        }

        int place() {
            return starts[at];
        }

        boolean atEnd() {
            return kinds[at] == END;
        }

        boolean atNumber() {
            return kinds[at] == NUMBER;
        }

        boolean atSign(int sign) {
            return kinds[at] == SIGN && values[at] == sign;
        }

        boolean atWord(int word) {
            return words[at] == word;
        }

        int word() {
            return words[at];
        }

        void next() {
            if (at < count - 1) {
                at++;
            }
        }

        /** Goes behind what opens, if not too many are open at once. */
        void enter() {
            if (open >= OPEN_MOST) {
                fail(FAULT_OPEN, starts[at]);
            } else {
                open++;
                next();
            }
        }

        void leave() {
            open--;
        }

        void needSign(int sign) {
            if (atSign(sign)) {
                next();
            } else {
                failHere();
            }
        }

        void needWord(int word) {
            needWordOf(word, word);
        }

        /** How far behind the first of these words the one is that stands here. */
        int needWordOf(int first, int last) {
            int word = words[at];
            if (word < first || word > last) {
                failHere();
                return 0;
            }
            next();
            return word - first;
        }

        int needNumber(int most) {
            int value = values[at];
            if (kinds[at] != NUMBER) {
                failHere();
            } else if (sizes[at] > DIGITS_MOST) {
                fail(FAULT_TEXT, starts[at] + DIGITS_MOST);
            } else if (value > most) {
                fail(FAULT_NUMBER, starts[at]);
            } else {
                next();
                return value;
            }
            return 0;
        }

        int needName() {
            int name = values[at];
            if (kinds[at] != WORD || words[at] >= 0 && words[at] < OWN_WORDS) {
                failHere();
            } else if (sizes[at] > LETTERS_MOST) {
                fail(FAULT_TEXT, starts[at] + LETTERS_MOST);
            } else {
                next();
                return name;
            }
            return 0;
        }
    }

    /** A SUM or a TEST as a row of steps, what they work on ahead of each. */
    static final class Formula {
        private final int[] steps = new int[TAPE_MOST];
        private final int[] stack = new int[STACK_MOST];
        private int size = 0;

        void clear() {
            size = 0;
        }

        void add(int op, int argument) {
            if (size < steps.length) {
                steps[size] = op << ARGUMENT_BITS | argument;
                size++;
            }
        }

        int value(int[] facts) {
            int top = 0;
            for (int i = 0; i < size; i++) {
                int op = steps[i] >> ARGUMENT_BITS;
                int argument = steps[i] & ARGUMENT_MASK;
                if (op <= OP_FACT) {
                    if (top >= STACK_MOST || op == OP_FACT && argument >= facts.length) {
                        return 0;
                    }
                    stack[top] = op == OP_FACT ? facts[argument] : argument;
                    top++;
                } else if (op <= OP_WINS) {
                    if (top < 1) {
                        return 0;
                    }
                    stack[top - 1] = ofOne(op, stack[top - 1], facts);
                } else {
                    if (top < 2) {
                        return 0;
                    }
                    top--;
                    stack[top - 1] = ofTwo(op, stack[top - 1], stack[top]);
                }
            }
            return top > 0 ? stack[0] : 0;
        }

        private static int ofOne(int op, int a, int[] facts) {
            if (op == OP_NOT) {
                return 1 - a;
            }
            if (facts.length < FACTS_MOST) {
                return 0;
            }
            if (a == facts[FACT_RIGHT_CRACKER]) {
                return facts[FACT_RIGHT_ODDS];
            }
            return a == facts[FACT_LEFT_CRACKER] ? facts[FACT_LEFT_ODDS] : 0;
        }

        private static int ofTwo(int op, int a, int b) {
            long result = 0L;
            switch (op) {
                case OP_ADD: result = (long) a + b; break;
                case OP_SUBTRACT: result = (long) a - b; break;
                case OP_MULTIPLY: result = (long) a * b; break;
                case OP_DIVIDE: result = b == 0 ? 0 : Math.floorDiv(a, b); break;
                case OP_MIN: result = Math.min(a, b); break;
                case OP_MAX: result = Math.max(a, b); break;
                case OP_LESS: result = a < b ? 1 : 0; break;
                case OP_MORE: result = a > b ? 1 : 0; break;
                case OP_SAME: result = a == b ? 1 : 0; break;
                case OP_AND: result = a & b; break;
                case OP_OR: result = a | b; break;
                default: break;
            }
            if (result > SUM_MOST) {
                return SUM_MOST;
            }
            return result < -SUM_MOST ? -SUM_MOST : (int) result;
        }
    }

    /** Reads SUMS into steps: those of a TABLE, those of a QUESTION. */
    static final class Sums {
        private final Text text;
        boolean asked = false;

        Sums(Text text) {
            this.text = text;
        }

        private void sum(Formula out) {
            product(out);
            for (int n = 0; n < TAPE_MOST && (text.atSign('+') || text.atSign('-')); n++) {
                int op = text.atSign('+') ? OP_ADD : OP_SUBTRACT;
                text.next();
                product(out);
                out.add(op, 0);
            }
        }

        private void product(Formula out) {
            part(out);
            for (int n = 0; n < TAPE_MOST && (text.atSign('*') || text.atSign('/')); n++) {
                int op = text.atSign('*') ? OP_MULTIPLY : OP_DIVIDE;
                text.next();
                part(out);
                out.add(op, 0);
            }
        }

        private void part(Formula out) {
            int fact = factOf(text.word());
            if (text.atNumber()) {
                out.add(OP_NUMBER, text.needNumber(NUMBER_MOST));
            } else if (fact != NONE) {
                text.next();
                out.add(OP_FACT, fact);
            } else if (text.atSign('(')) {
                text.enter();
                sum(out);
                text.needSign(')');
                text.leave();
            } else if (text.atWord(W_MIN) || text.atWord(W_MAX)) {
                ofTwo(out, text.atWord(W_MIN) ? OP_MIN : OP_MAX);
            } else if (asked && text.atWord(W_WINS)) {
                wins(out);
            } else {
                text.failHere();
            }
        }

        private void wins(Formula out) {
            text.enter();
            part(out);
            text.leave();
            out.add(OP_WINS, 0);
        }

        private void ofTwo(Formula out, int op) {
            text.next();
            if (!text.atSign('(')) {
                text.failHere();
                return;
            }
            text.enter();
            sum(out);
            text.needSign(',');
            sum(out);
            text.needSign(')');
            text.leave();
            out.add(op, 0);
        }

        private int factOf(int word) {
            return asked ? factOfPerson(word) : factOfHand(word);
        }

        private static int factOfHand(int word) {
            switch (word) {
                case W_ARM: return FACT_ARM;
                case W_LOW: return FACT_LOW;
                case W_OTHER: return FACT_OTHER;
                case W_SEAM: return FACT_SEAM;
                case W_PAPER: return FACT_PAPER;
                case W_THUMB: return FACT_HAND_THUMB;
                default: return NONE;
            }
        }

        private static int factOfPerson(int word) {
            switch (word) {
                case W_NUMBER: return FACT_NUMBER;
                case W_RIGHT: return FACT_RIGHT;
                case W_LEFT: return FACT_LEFT;
                case W_HATS: return FACT_HATS;
                case W_THUMB: return FACT_THUMBS;
                default: return NONE;
            }
        }
    }

    /** What a TABLE tells. HANDS are kept two by two: the right one of the k-th at 2 k, the left one behind it. */
    static final class Table {
        int statements = 0;
        int people = 0;
        final int[] names = new int[PEOPLE_MOST];
        final int[] arms = new int[HANDS_MOST];
        final int[] grips = new int[HANDS_MOST];
        final int[] lows = new int[HANDS_MOST];
        final int[] hats = new int[PEOPLE_MOST];
        int boxes = 0;
        final int[] boxNames = new int[BOXES_MOST];
        final int[] duds = new int[BOXES_MOST];
        int bang = HUNDRED;
        boolean pulled = false;
        boolean slipped = false;
        final Formula might = new Formula();
        final Formula slips = new Formula();

        private void clear() {
            statements = 0;
            people = 0;
            boxes = 0;
            bang = HUNDRED;
            pulled = false;
            slipped = false;
        }

        void readAll(Text text, Sums sums) {
            clear();
            for (int n = 0; n <= STATEMENTS_MOST && !text.atEnd(); n++) {
                if (n == STATEMENTS_MOST) {
                    text.fail(FAULT_TOO_MANY, text.place());
                } else {
                    readOne(text, sums);
                }
            }
        }

        private void readOne(Text text, Sums sums) {
            switch (text.word()) {
                case W_PERSON: readPerson(text); break;
                case W_HOLDS: readHolds(text); break;
                case W_BOX: readBox(text); break;
                case W_HATS: readHats(text); break;
                case W_BANG: readBang(text); break;
                case W_PULL:
                    readSum(text, sums, might, pulled);
                    pulled = true;
                    break;
                case W_SLIP:
                    readSum(text, sums, slips, slipped);
                    slipped = true;
                    break;
                default: text.failHere();
            }
            text.needSign(';');
            statements++;
        }

        private void readPerson(Text text) {
            if (people >= PEOPLE_MOST) {
                text.fail(FAULT_TOO_MANY, text.place());
                return;
            }
            text.next();
            int person = people;
            names[person] = newName(text);
            text.needWord(W_RIGHT);
            arms[HANDS * person + RIGHT] = text.needNumber(ARM_MOST);
            text.needWord(W_LEFT);
            arms[HANDS * person + LEFT] = text.needNumber(ARM_MOST);
            for (int hand = 0; hand < HANDS; hand++) {
                grips[HANDS * person + hand] = GRIP_SEAM;
                lows[HANDS * person + hand] = LOW_WITHOUT;
            }
            hats[person] = 0;
            people++;
        }

        private void readBox(Text text) {
            if (boxes >= BOXES_MOST) {
                text.fail(FAULT_TOO_MANY, text.place());
                return;
            }
            text.next();
            boxNames[boxes] = newName(text);
            text.needWord(W_DUDS);
            duds[boxes] = text.needNumber(HUNDRED);
            boxes++;
        }

        private void readHolds(Text text) {
            text.next();
            int person = toldPerson(text);
            int hand = text.needWordOf(W_RIGHT, W_LEFT);
            int grip = text.needWordOf(W_SEAM, W_THUMB);
            int low = text.needNumber(LOW_MOST);
            if (person != NONE) {
                grips[HANDS * person + hand] = grip;
                lows[HANDS * person + hand] = low;
            }
        }

        private void readHats(Text text) {
            text.next();
            int person = toldPerson(text);
            int number = text.needNumber(HATS_TOLD_MOST);
            if (person != NONE) {
                hats[person] = number;
            }
        }

        private void readBang(Text text) {
            text.next();
            bang = text.needNumber(HUNDRED);
        }

        private void readSum(Text text, Sums sums, Formula formula, boolean already) {
            if (already) {
                text.fail(FAULT_TOO_MANY, text.place());
                return;
            }
            text.next();
            formula.clear();
            sums.asked = false;
            sums.sum(formula);
        }

        private int newName(Text text) {
            int place = text.place();
            int name = text.needName();
            if (!text.failed() && (personOf(name) != NONE || boxOf(name) != NONE)) {
                text.fail(FAULT_NAME, place);
            }
            return name;
        }

        private int toldPerson(Text text) {
            int place = text.place();
            int name = text.needName();
            if (text.failed()) {
                return NONE;
            }
            int person = personOf(name);
            if (person == NONE) {
                text.fail(FAULT_NAME, place);
            }
            return person;
        }

        private int personOf(int name) {
            for (int person = 0; person < people; person++) {
                if (names[person] == name) {
                    return person;
                }
            }
            return NONE;
        }

        private int boxOf(int name) {
            for (int box = 0; box < boxes; box++) {
                if (boxNames[box] == name) {
                    return box;
                }
            }
            return NONE;
        }
    }

    /** All that an ACT can alter: who sits where; of each of the PEOPLE, as told, HATS and how his HANDS hold. */
    static final class State {
        int people = 0;
        int dinners = 0;
        int bangs = 0;
        int under = 0;
        final int[] who = new int[PEOPLE_MOST];
        final int[] hats = new int[PEOPLE_MOST];
        final int[] grips = new int[HANDS_MOST];
        final int[] lows = new int[HANDS_MOST];

        void begin(Table table) {
            people = table.people;
            dinners = 0;
            bangs = 0;
            under = 0;
            for (int seat = 0; seat < PEOPLE_MOST; seat++) {
                who[seat] = seat;
            }
            System.arraycopy(table.hats, 0, hats, 0, PEOPLE_MOST);
            System.arraycopy(table.grips, 0, grips, 0, HANDS_MOST);
            System.arraycopy(table.lows, 0, lows, 0, HANDS_MOST);
        }

        void copyFrom(State other) {
            people = other.people;
            dinners = other.dinners;
            bangs = other.bangs;
            under = other.under;
            System.arraycopy(other.who, 0, who, 0, PEOPLE_MOST);
            System.arraycopy(other.hats, 0, hats, 0, PEOPLE_MOST);
            System.arraycopy(other.grips, 0, grips, 0, HANDS_MOST);
            System.arraycopy(other.lows, 0, lows, 0, HANDS_MOST);
        }

        int crackers() {
            return people < 2 ? 0 : people;
        }

        int behind(int seat) {
            return seat + 1 >= people ? 0 : seat + 1;
        }

        int ahead(int seat) {
            return seat <= 0 ? people - 1 : seat - 1;
        }

        int handOf(int seat, int hand) {
            return HANDS * who[seat] + hand;
        }

        int holdOf(int held) {
            return 10 * grips[held] + lows[held];
        }

        int allHats() {
            int sum = 0;
            for (int person = 0; person < people; person++) {
                sum += hats[person];
            }
            return sum;
        }

        int hatless() {
            int without = 0;
            for (int person = 0; person < people; person++) {
                if (hats[person] == 0) {
                    without++;
                }
            }
            return without;
        }

        void addHat(int seat) {
            hats[who[seat]] = Math.min(HATS_MOST, hats[who[seat]] + 1);
        }

        /** One round TO THE LEFT; all take theirs away before any is added, since they give at once. */
        int giveLeft() {
            int givers = 0;
            for (int seat = 0; seat < people; seat++) {
                if (hats[who[seat]] >= 2) {
                    givers |= 1 << seat;
                    hats[who[seat]]--;
                }
            }
            for (int seat = 0; seat < people; seat++) {
                if ((givers >> seat & 1) == 1) {
                    addHat(behind(seat));
                }
            }
            return Integer.bitCount(givers);
        }
    }

    /** What is ahead of the latest ACTS, in a ring of so many as can be undone. */
    static final class History {
        private final State[] past = new State[ACTS_MOST];
        private int next = 0;
        int count = 0;

        History() {
            for (int i = 0; i < ACTS_MOST; i++) {
                past[i] = new State();
            }
        }

        void forget() {
            count = 0;
        }

        void keep(State state) {
            past[next].copyFrom(state);
            next = (next + 1) % ACTS_MOST;
            count = Math.min(ACTS_MOST, count + 1);
        }

        void bringBack(State state) {
            if (count > 0) {
                next = (next + ACTS_MOST - 1) % ACTS_MOST;
                count--;
                state.copyFrom(past[next]);
            }
        }
    }

    /** Who has a CRACKER by which odds. */
    static final class Pull {
        Table table;
        private final int[] facts = new int[FACTS_MOST];
        final int[] tells = new int[TELLS_MOST];
        final int[] rightHas = new int[PEOPLE_MOST];
        final int[] leftHas = new int[PEOPLE_MOST];
        private final int[] nobodyHas = new int[PEOPLE_MOST];

        Pull(Table table) {
            this.table = table;
        }

        /** Tells of a CRACKER between the right HAND in a seat and the left one in another, as cracker() does. */
        void work(State state, int rightSeat, int leftSeat) {
            int right = state.handOf(rightSeat, RIGHT);
            int left = state.handOf(leftSeat, LEFT);
            measure(state, right, left, RIGHT);
            measure(state, left, right, LEFT);
            int might = tells[TELLS_MIGHT + RIGHT];
            int both = might + tells[TELLS_MIGHT + LEFT];
            int s = tells[TELLS_SLIP + RIGHT];
            int t = tells[TELLS_SLIP + LEFT];
            int share = both <= 0 ? 50 : HUNDRED * might / both;
            int neitherSlips = (HUNDRED - s) * (HUNDRED - t);
            int rightWins = neitherSlips * share / HUNDRED;
            tells[TELLS_HAS_IT + RIGHT] = (HUNDRED - s) * t + rightWins;
            tells[TELLS_HAS_IT + LEFT] = s * (HUNDRED - t) + neitherSlips - rightWins;
            tells[TELLS_NOBODY] = s * t;
        }

        private void measure(State state, int held, int other, int hand) {
            int arm = table.arms[held];
            int grip = state.grips[held];
            facts[FACT_ARM] = arm;
            facts[FACT_LOW] = state.lows[held];
            facts[FACT_OTHER] = state.lows[other];
            facts[FACT_SEAM] = grip == GRIP_SEAM ? 1 : 0;
            facts[FACT_PAPER] = grip == GRIP_PAPER ? 1 : 0;
            facts[FACT_HAND_THUMB] = grip == GRIP_THUMB ? 1 : 0;
            int might = table.pulled ? table.might.value(facts) : arm;
            int slip = table.slipped ? table.slips.value(facts) : 0;
            tells[TELLS_MIGHT + hand] = Math.max(0, Math.min(MIGHT_MOST, might));
            tells[TELLS_SLIP + hand] = Math.max(0, Math.min(HUNDRED, slip));
        }

        void workAll(State state) {
            for (int cracker = 0; cracker < state.crackers(); cracker++) {
                work(state, cracker, state.behind(cracker));
                rightHas[cracker] = tells[TELLS_HAS_IT + RIGHT];
                leftHas[cracker] = tells[TELLS_HAS_IT + LEFT];
                nobodyHas[cracker] = tells[TELLS_NOBODY];
            }
        }

        /** Of WHOLE times WHOLE ways, in how many who sits in a seat has so many HATS; behind workAll(). */
        long ways(State state, int seat, int hats) {
            long right = rightHas[seat];
            long left = leftHas[state.ahead(seat)];
            if (hats == 0) {
                return (WHOLE - right) * (WHOLE - left);
            }
            return hats == HANDS ? right * left : right * (WHOLE - left) + left * (WHOLE - right);
        }

        /** Whether none of a group of seats has a CRACKER by an outcome that can be; behind workAll(). */
        boolean canGoWithout(State state, int group) {
            for (int cracker = 0; cracker < state.crackers(); cracker++) {
                boolean right = rightHas[cracker] > 0 && (group >> cracker & 1) == 0;
                boolean left = leftHas[cracker] > 0 && (group >> state.behind(cracker) & 1) == 0;
                if (!right && !left && nobodyHas[cracker] == 0) {
                    return false;
                }
            }
            return true;
        }
    }

    /** HOW TO HOLD, and AT REST (kept till the PEOPLE hold or sit otherwise). */
    static final class Holds {
        private final Pull pull;
        final State trial = new State();
        final State rested = new State();
        boolean known = false;
        int round = 0;
        int bestHold = 0;
        int bestOdds = 0;
        private int asHeld = 0;

        Holds(Pull pull) {
            this.pull = pull;
        }

        /** Finds how to hold, and by which odds, and by which odds as it is; the state is left as it was. */
        void findBest(State state, int seat, int hand) {
            int held = state.handOf(seat, hand);
            int before = state.holdOf(held);
            int rightSeat = hand == RIGHT ? seat : state.ahead(seat);
            int leftSeat = state.behind(rightSeat);
            bestOdds = NONE;
            for (int way = 0; way < WAYS_TO_HOLD; way++) {
                state.grips[held] = way / 10;
                state.lows[held] = way % 10;
                pull.work(state, rightSeat, leftSeat);
                int odds = pull.tells[TELLS_HAS_IT + hand];
                if (odds > bestOdds) {
                    bestOdds = odds;
                    bestHold = way;
                }
                if (way == before) {
                    asHeld = odds;
                }
            }
            state.grips[held] = before / 10;
            state.lows[held] = before % 10;
        }

        /** The odds of a HAND with another GRIP, which it keeps in that state. */
        int oddsWith(State state, int seat, int hand, int grip) {
            int rightSeat = hand == RIGHT ? seat : state.ahead(seat);
            state.grips[state.handOf(seat, hand)] = grip;
            pull.work(state, rightSeat, state.behind(rightSeat));
            return pull.tells[TELLS_HAS_IT + hand];
        }

        void settle(State state) {
            if (known) {
                return;
            }
            known = true;
            rested.copyFrom(state);
            round = HOLDING_ROUNDS + 1;
            for (int n = 1; n <= HOLDING_ROUNDS && round > HOLDING_ROUNDS; n++) {
                int others = 0;
                for (int i = 0; i < HANDS * rested.people; i++) {
                    findBest(rested, i / HANDS, i % HANDS);
                    if (bestOdds > asHeld) {
                        int held = rested.handOf(i / HANDS, i % HANDS);
                        rested.grips[held] = bestHold / 10;
                        rested.lows[held] = bestHold % 10;
                        others++;
                    }
                }
                if (others == 0) {
                    round = n;
                }
            }
        }
    }

    /** SEATS (kept till the PEOPLE hold or sit otherwise). */
    static final class Rows {
        private final Pull pull;
        private final int[] rightHas = new int[PEOPLE_MOST * PEOPLE_MOST];
        private final int[] leftHas = new int[PEOPLE_MOST * PEOPLE_MOST];
        private final int[] row = new int[PEOPLE_MOST];
        private int people = 0;
        final int[] best = new int[PEOPLE_MOST];
        long fewest = 0L;
        boolean known = false;

        Rows(Pull pull) {
            this.pull = pull;
        }

        void search(State state) {
            if (known) {
                return;
            }
            known = true;
            people = state.people;
            for (int right = 0; right < people; right++) {
                for (int left = 0; left < people; left++) {
                    // one's own two HANDS never meet, but what they would do harms nothing
                    pull.work(state, right, left);
                    rightHas[PEOPLE_MOST * right + left] = pull.tells[TELLS_HAS_IT + RIGHT];
                    leftHas[PEOPLE_MOST * right + left] = pull.tells[TELLS_HAS_IT + LEFT];
                }
            }
            fewest = ABOVE_ALL_WAYS;
            row[0] = 0;
            goOn(1, 1, 0L);
        }

        /** Goes on from a row of the first so many; of like rows the one tried first stays. */
        private void goOn(int placed, int taken, long sum) {
            if (sum >= fewest || placed > PEOPLE_MOST) {
                return;
            }
            if (placed >= people) {
                close(sum);
            } else {
                placeEach(placed, taken, sum);
            }
        }

        private void placeEach(int placed, int taken, long sum) {
            for (int next = 1; next < people; next++) {
                if ((taken >> next & 1) == 0) {
                    row[placed] = next;
                    long more = placed < 2 ? 0L : without(row[placed - 2], row[placed - 1], next);
                    goOn(placed + 1, taken | 1 << next, sum + more);
                }
            }
        }

        private void close(long sum) {
            int last = people - 1;
            if (last < 1) {
                return;
            }
            long all = sum + without(row[last - 1], row[last], row[0]) + without(row[last], row[0], row[1]);
            if (all < fewest) {
                fewest = all;
                System.arraycopy(row, 0, best, 0, people);
            }
        }

        /** Of WHOLE times WHOLE ways, in how many one between two others has none. */
        private long without(int ahead, int seat, int behind) {
            long right = rightHas[PEOPLE_MOST * seat + behind];
            long left = leftHas[PEOPLE_MOST * ahead + seat];
            return (WHOLE - right) * (WHOLE - left);
        }
    }

    /** The fewest GIFTS: over each edge of the ring a flow of at most so many as can have no HAT, to either side. */
    static final class Gifts {
        private final int[] costs = new int[FLOWS];
        private final int[] behind = new int[FLOWS];

        int fewest(State state) {
            int answer = FAR;
            for (int round = 0; round < FLOWS; round++) {
                answer = Math.min(answer, withFlow(state, round));
            }
            return answer;
        }

        /** The cost if from the last one to the first one this flow goes (FLOW_MOST is told for none). */
        private int withFlow(State state, int flow) {
            for (int i = 0; i < FLOWS; i++) {
                costs[i] = i == flow ? 0 : FAR;
            }
            for (int seat = 0; seat < state.people; seat++) {
                step(state.hats[state.who[seat]]);
            }
            return costs[flow];
        }

        /** From the costs by the flow to one of the PEOPLE to those by the flow from him, a HAT staying with him. */
        private void step(int hats) {
            int least = FAR;
            for (int i = FLOWS - 1; i >= 0; i--) {
                least = Math.min(least, costs[i]);
                behind[i] = least;
            }
            for (int i = 0; i < FLOWS; i++) {
                int needed = Math.max(0, i + 1 - hats);
                costs[i] = needed < FLOWS ? behind[needed] + Math.abs(i - FLOW_MOST) : FAR;
            }
        }
    }

    /** A QUESTION: its word, and its TEST or SUM. */
    static final class Question {
        private final Text text;
        private final Sums sums;
        private final Formula formula = new Formula();
        private final int[] facts = new int[FACTS_MOST];
        private int word = NONE;

        Question(Text text, Sums sums) {
            this.text = text;
            this.sums = sums;
        }

        void readAll() {
            formula.clear();
            sums.asked = true;
            word = W_FIRST + text.needWordOf(W_FIRST, W_LEAST);
            if (word <= W_OFTEN) {
                test();
            } else {
                sums.sum(formula);
            }
            if (!text.atEnd()) {
                text.failHere();
            }
        }

        private void test() {
            both();
            for (int n = 0; n < TAPE_MOST && text.atWord(W_OR); n++) {
                text.next();
                both();
                formula.add(OP_OR, 0);
            }
        }

        private void both() {
            fact();
            for (int n = 0; n < TAPE_MOST && text.atWord(W_AND); n++) {
                text.next();
                fact();
                formula.add(OP_AND, 0);
            }
        }

        private void fact() {
            if (text.atWord(W_NOT)) {
                turned();
            } else if (text.atSign('[')) {
                text.enter();
                test();
                text.needSign(']');
                text.leave();
            } else if (text.atWord(W_ALL)) {
                text.next();
                formula.add(OP_NUMBER, 1);
            } else {
                compare();
            }
        }

        private void turned() {
            text.enter();
            fact();
            text.leave();
            formula.add(OP_NOT, 0);
        }

        private void compare() {
            sums.sum(formula);
            int op = OP_SAME;
            if (text.atSign('<')) {
                op = OP_LESS;
            } else if (text.atSign('>')) {
                op = OP_MORE;
            } else if (!text.atSign('=')) {
                text.failHere();
                return;
            }
            text.next();
            sums.sum(formula);
            formula.add(op, 0);
        }

        long answer(State state, Pull pull) {
            int first = NONE;
            int last = NONE;
            int often = 0;
            long total = 0L;
            int most = 0;
            int least = 0;
            for (int seat = 0; seat < state.people; seat++) {
                look(state, pull, seat);
                int value = formula.value(facts);
                if (value != 0) {
                    first = first == NONE ? seat : first;
                    last = seat;
                    often++;
                }
                total += value;
                most = seat == 0 ? value : Math.max(most, value);
                least = seat == 0 ? value : Math.min(least, value);
            }
            switch (word) {
                case W_FIRST: return first;
                case W_LAST: return last;
                case W_OFTEN: return often;
                case W_TOTAL: return total;
                case W_MOST: return most;
                default: return least;
            }
        }

        private void look(State state, Pull pull, int seat) {
            int right = state.handOf(seat, RIGHT);
            int left = state.handOf(seat, LEFT);
            boolean pulls = state.crackers() > 0;
            facts[FACT_NUMBER] = seat;
            facts[FACT_RIGHT] = pull.table.arms[right];
            facts[FACT_LEFT] = pull.table.arms[left];
            facts[FACT_HATS] = state.hats[state.who[seat]];
            facts[FACT_THUMBS] = (state.grips[right] == GRIP_THUMB ? 1 : 0) + (state.grips[left] == GRIP_THUMB ? 1 : 0);
            facts[FACT_RIGHT_CRACKER] = seat;
            facts[FACT_LEFT_CRACKER] = state.ahead(seat);
            facts[FACT_RIGHT_ODDS] = pulls ? pull.rightHas[seat] : 0;
            facts[FACT_LEFT_ODDS] = pulls ? pull.leftHas[state.ahead(seat)] : 0;
        }
    }
}
