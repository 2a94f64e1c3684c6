/** A moot that reckons the price of blood; what each call answers stands in the document's promises 1 to 24. */
public final class BloodPrice {
    public static final int NONE = -1;

    private static final int LAW_REFUSED = -2;
    private static final int CANNOT_BE_ASKED = -2000000001;

    private static final int FOLKS = 4;
    private static final int LAWS_EACH = 4;
    private static final int MOST_PEOPLE = 20;
    private static final int MOST_TOLDS = 60;
    private static final int MOST_TRUCES = 10;
    private static final int MOST_CASES = 20;
    private static final int MOST_PAYMENTS = 60;
    private static final int MOST_RATES = 100;
    private static final int LAST_DAY = 100000;
    private static final int LONGEST_WAIT = 1000;
    private static final int HIGHEST_RANK = 3;
    private static final int LAST_PLACE = 3;
    private static final int KINDS = 4;
    private static final int HIGHEST_RATE = 1000;
    private static final int MOST_BEASTS = 1000;
    private static final int FARTHEST_KIN = 3;
    private static final int HELPER_BITS = 32;

    private static final int TAPE_BYTES = 700;
    private static final int FED_BYTES = 20;

    private static final int MOST_HURTS = 12;
    private static final int MOST_WHENS = 16;
    private static final int MOST_SUMS = 60;
    private static final int DEEPEST = 6;
    private static final int HIGHEST_SUM = 10000000;
    private static final int HIGHEST_N = 100000;

    private static final int FAULT_NO_TOKEN = 1;
    private static final int FAULT_CANNOT_STAND = 2;
    private static final int FAULT_NAME_TOLD = 3;
    private static final int FAULT_NUMBER = 4;

    // Words and signs are held as a NAME comes to hurt(): their bytes as a long, the highest first.
    private static final long HURT = 0x68757274L;
    private static final long WHEN = 0x7768656eL;
    private static final long DO = 0x646fL;
    private static final long DOUBLE = 0x646f75626c65L;
    private static final long HALF = 0x68616c66L;
    private static final long ADD = 0x616464L;
    private static final long LESS = 0x6c657373L;
    private static final long SHARE = 0x7368617265L;
    private static final long NEED = 0x6e656564L;
    private static final long RANK = 0x72616e6bL;
    private static final long TERMS = 0x7465726d73L;
    private static final long DAYS = 0x64617973L;
    private static final long OR = 0x6f72L;
    private static final long AND = 0x616e64L;
    private static final long NOT = 0x6e6f74L;
    private static final long OTHER = 0x6f74686572L;
    private static final long PLACE = 0x706c616365L;
    private static final long NIGHT = 0x6e69676874L;
    private static final long KIN = 0x6b696eL;
    private static final long TRUCE = 0x7472756365L;
    private static final long SUM = 0x73756dL;
    private static final long SEMICOLON = ';';
    private static final long OPEN = '(';
    private static final long CLOSE = ')';
    private static final long BELOW = '<';
    private static final long ABOVE = '>';
    private static final long ALIKE = '=';

    private static final long[] NO_NAMES = {
        HURT, WHEN, DO, DOUBLE, HALF, ADD, LESS, SHARE, NEED, RANK, TERMS, DAYS, OR, AND, NOT,
        OTHER, PLACE, NIGHT, KIN, TRUCE, SUM
    };

    // The WORDs of an e; where one stands here is where its value stands in a row of facts.
    private static final long[] FACT_WORDS = {RANK, OTHER, PLACE, NIGHT, KIN, TRUCE, SUM};
    private static final int FACT_RANK = 0;
    private static final int FACT_OTHER = 1;
    private static final int FACT_PLACE = 2;
    private static final int FACT_NIGHT = 3;
    private static final int FACT_KIN = 4;
    private static final int FACT_TRUCE = 5;
    private static final int FACT_SUM = 6;
    private static final int FACTS = 7;

    // An e is held operands first: a number n as n, the fact f as -1 - f, and these.
    private static final int DO_NOT = -11;
    private static final int DO_AND = -12;
    private static final int DO_OR = -13;
    private static final int DO_BELOW = -14;
    private static final int DO_ABOVE = -15;
    private static final int DO_ALIKE = -16;

    private static final int DEED_DOUBLE = 0;
    private static final int DEED_HALF = 1;
    private static final int DEED_ADD = 2;
    private static final int DEED_LESS = 3;

    private final byte[] tape = new byte[TAPE_BYTES];
    private int taped;
    private final Tokens tokens = new Tokens();
    private final Law[] laws = new Law[FOLKS * LAWS_EACH];
    private final int[] lawsOf = new int[FOLKS];
    private int latestFault;
    private int latestPlace = NONE;
    private int today;
    private final People people = new People();
    private final Tolds tolds = new Tolds();
    private final Truces truces = new Truces();
    private final Case[] cases = new Case[MOST_CASES];
    private int caseCount;
    private final Payments payments = new Payments();
    private final int[] rates = new int[KINDS];
    private int ratesTold;
    private final int[] facts = new int[FACTS];

    public BloodPrice() {
    }

    public int feed(int a, int b, int c, int d, int e) {
        if (taped + FED_BYTES > TAPE_BYTES) {
            return NONE;
        }
        writeNumber(a);
        writeNumber(b);
        writeNumber(c);
        writeNumber(d);
        writeNumber(e);
        return taped;
    }

    private void writeNumber(int number) {
        for (int shift = 24; shift >= 0; shift -= 8) {
            if (taped < tape.length) {
                tape[taped] = (byte) (number >>> shift);
                taped++;
            }
        }
    }

    public int end(int n) {
        if (n < 0 || n > taped) {
            return NONE;
        }
        taped = n;
        return n;
    }

    public int law(int folk, int day) {
        if (!isFolk(folk) || !isDay(day) || lawsOf[folk] >= LAWS_EACH) {
            return LAW_REFUSED;
        }
        tokens.split(tape, taped);
        taped = 0;
        Law told = new Law(day, tokens.count);
        Reader reader = new Reader(tokens, told);
        boolean good = reader.readText();
        latestFault = reader.fault;
        latestPlace = reader.faultPlace;
        if (!good) {
            return NONE;
        }
        laws[folk * LAWS_EACH + lawsOf[folk]] = told;
        lawsOf[folk]++;
        return lawsOf[folk];
    }

    public int fault(int what) {
        if (what == 0) {
            return latestFault;
        }
        return what == 1 ? latestPlace : NONE;
    }

    public int lawOn(int folk, int day) {
        if (!isFolk(folk)) {
            return NONE;
        }
        int best = NONE;
        int bestFrom = NONE;
        for (int i = 0; i < lawsOf[folk]; i++) {
            Law one = laws[folk * LAWS_EACH + i];
            if (one != null && one.from <= day && one.from >= bestFrom) {
                best = i;
                bestFrom = one.from;
            }
        }
        return best;
    }

    public int person(int folk, int mother, int father) {
        if (!isFolk(folk) || !people.canBeParent(mother) || !people.canBeParent(father)) {
            return NONE;
        }
        return people.add(folk, mother, father);
    }

    public int degree(int a, int b) {
        return people.stepsBetween(a, b);
    }

    public int rank(int person, int rank, int day) {
        if (!people.isThere(person) || rank < 0 || rank > HIGHEST_RANK || !isDay(day)) {
            return NONE;
        }
        return tolds.add(person, rank, day, today);
    }

    public int ranked(int person, int d, int k) {
        return people.isThere(person) ? tolds.rankAsKnown(person, d, k) : NONE;
    }

    public boolean dead(int person, int day) {
        return isDay(day) && people.bury(person, day);
    }

    public int truce(int a, int b, int from, int to) {
        if (!isFolk(a) || !isFolk(b) || !isDay(from) || !isDay(to) || from > to) {
            return NONE;
        }
        return truces.add(a, b, from, to);
    }

    public int later(int days) {
        if (days < 0 || days > LONGEST_WAIT || today + days > LAST_DAY) {
            return NONE;
        }
        today += days;
        return today;
    }

    public int hurt(int by, int of, long name, int day, int place, boolean night) {
        if (!people.isThere(by) || !people.isThere(of) || by == of || !isName(name)) {
            return NONE;
        }
        if (day < 0 || day > today || place < 0 || place > LAST_PLACE || caseCount >= MOST_CASES) {
            return NONE;
        }
        cases[caseCount] = new Case(by, of, name, day, place, night);
        caseCount++;
        return caseCount - 1;
    }

    public int sum(int which, int k) {
        Case asked = caseAt(which);
        return asked == null ? NONE : sumAsKnown(asked, k);
    }

    public int oath(int which, int helpers) {
        Case asked = caseAt(which);
        if (asked == null || asked.cleared != NONE || asked.judged != NONE) {
            return NONE;
        }
        Law held = lawOfCase(asked);
        if (held == null) {
            return NONE;
        }
        if (!oathStands(asked, held, helpers)) {
            return 0;
        }
        asked.cleared = today;
        return 1;
    }

    public int of(int which, int what) {
        Case asked = caseAt(which);
        if (asked == null) {
            return NONE;
        }
        switch (what) {
            case 0:
                return asked.doer;
            case 1:
                return asked.victim;
            case 2:
                return asked.day;
            case 3:
                return truceBroken(asked) ? 1 : 0;
            case 4:
                return asked.cleared;
            case 5:
                return asked.judged;
            default:
                return NONE;
        }
    }

    public int pays(int which, int person, int k) {
        Case asked = caseAt(which);
        return asked == null ? NONE : partOf(asked, person, k, asked.doer, asked.victim);
    }

    public int has(int which, int person, int k) {
        Case asked = caseAt(which);
        return asked == null ? NONE : partOf(asked, person, k, asked.victim, asked.doer);
    }

    public int judge(int which) {
        Case asked = caseAt(which);
        if (asked == null || asked.judged != NONE) {
            return NONE;
        }
        Law held = lawOfCase(asked);
        int whole = sumAsKnown(asked, today);
        if (held == null || whole == NONE) {
            return NONE;
        }
        asked.judged = today;
        asked.due = whole;
        asked.terms = held.terms;
        asked.termDays = held.termDays;
        return whole;
    }

    public boolean rate(int kind, int worth) {
        if (!isKind(kind) || worth < 0 || worth > HIGHEST_RATE || ratesTold >= MOST_RATES) {
            return false;
        }
        rates[kind] = worth;
        ratesTold++;
        return true;
    }

    public int pay(int which, int kind, int beasts) {
        Case asked = caseAt(which);
        if (asked == null || asked.judged == NONE) {
            return NONE;
        }
        if (!isKind(kind) || beasts < 1 || beasts > MOST_BEASTS) {
            return NONE;
        }
        return payments.add(which, today, rates[kind] * beasts);
    }

    public int owed(int which, int day) {
        Case asked = caseAt(which);
        if (asked == null || asked.judged == NONE || day < asked.judged || day > today) {
            return CANNOT_BE_ASKED;
        }
        return owedOn(asked, which, day);
    }

    public int about(int what) {
        switch (what) {
            case 0:
                return today;
            case 1:
                return people.count;
            case 2:
                return tolds.count;
            case 3:
                return truces.count;
            case 4:
                return caseCount;
            case 5:
                return payments.count;
            case 6:
                return ratesTold;
            case 7:
                return taped;
            default:
                return what >= 10 && isFolk(what - 10) ? lawsOf[what - 10] : NONE;
        }
    }

    private static boolean isFolk(int folk) {
        return folk >= 0 && folk < FOLKS;
    }

    private static boolean isDay(int day) {
        return day >= 0 && day <= LAST_DAY;
    }

    private static boolean isKind(int kind) {
        return kind >= 0 && kind < KINDS;
    }

    private static boolean isLetter(int c) {
        return c >= 'a' && c <= 'z';
    }

    private static boolean isName(long name) {
        int letters = 0;
        for (int shift = 56; shift >= 0; shift -= 8) {
            int c = (int) (name >>> shift & 255);
            if (isLetter(c)) {
                letters++;
            } else if (c != 0 || letters > 0) {
                return false;
            }
        }
        return letters > 0 && placeIn(NO_NAMES, name) == NONE;
    }

    private static int placeIn(long[] row, long sought) {
        for (int i = 0; i < row.length; i++) {
            if (row[i] == sought) {
                return i;
            }
        }
        return NONE;
    }

    private Case caseAt(int which) {
        return which >= 0 && which < caseCount ? cases[which] : null;
    }

    private Law lawOfCase(Case asked) {
        int folk = people.folkOf(asked.victim);
        int number = lawOn(folk, asked.day);
        return number == NONE ? null : laws[folk * LAWS_EACH + number];
    }

    private boolean truceBroken(Case asked) {
        return truces.held(people.folkOf(asked.doer), people.folkOf(asked.victim), asked.day);
    }

    private int sumAsKnown(Case asked, int k) {
        Law held = lawOfCase(asked);
        if (held == null) {
            return NONE;
        }
        int hurt = placeIn(held.names, asked.name);
        if (hurt == NONE) {
            return NONE;
        }
        if (asked.cleared != NONE && k >= asked.cleared) {
            return 0;
        }
        gatherFacts(asked, k);
        return held.priceOf(hurt, facts);
    }

    private void gatherFacts(Case asked, int k) {
        int steps = people.stepsBetween(asked.doer, asked.victim);
        facts[FACT_RANK] = tolds.rankAsKnown(asked.victim, asked.day, k);
        facts[FACT_OTHER] = tolds.rankAsKnown(asked.doer, asked.day, k);
        facts[FACT_PLACE] = asked.place;
        facts[FACT_NIGHT] = asked.night ? 1 : 0;
        facts[FACT_KIN] = steps != NONE && steps <= FARTHEST_KIN ? 1 : 0;
        facts[FACT_TRUCE] = truceBroken(asked) ? 1 : 0;
    }

    private boolean oathStands(Case asked, Law held, int helpers) {
        if (Integer.bitCount(helpers) < held.helpers) {
            return false;
        }
        people.measureFrom(asked.doer);
        for (int helper = 0; helper < HELPER_BITS; helper++) {
            if ((helpers >>> helper & 1) != 0 && !maySwear(asked, held, helper)) {
                return false;
            }
        }
        return true;
    }

    private boolean maySwear(Case asked, Law held, int helper) {
        return people.isThere(helper)
            && helper != asked.doer
            && helper != asked.victim
            && !people.deadOn(helper, today)
            && people.steps[helper] != 1
            && tolds.rankAsKnown(helper, today, today) >= held.helperRank;
    }

    private int partOf(Case asked, int person, int k, int head, int leftOut) {
        Law held = lawOfCase(asked);
        int whole = sumAsKnown(asked, k);
        if (held == null || whole == NONE || !people.isThere(person)) {
            return NONE;
        }
        people.measureFrom(head);
        int headPart = whole;
        int kinPart = 0;
        for (int degree = 1; degree <= FARTHEST_KIN; degree++) {
            people.pickSharers(head, leftOut, degree, asked.day);
            if (people.sharers > 0) {
                int each = held.partOfDegree(whole, degree) / people.sharers;
                headPart -= each * people.sharers;
                kinPart += people.sharing[person] ? each : 0;
            }
        }
        return person == head ? headPart : kinPart;
    }

    private int owedOn(Case asked, int which, int day) {
        int owes = 0;
        int settled = asked.judged - 1;
        for (int term = 0; term < asked.terms; term++) {
            int termDay = asked.judged + (term + 1) * asked.termDays;
            owes += asked.dueIn(term);
            if (termDay < day) {
                owes -= payments.paid(which, settled, termDay);
                owes = owes > 0 ? owes * 2 : owes;
                settled = termDay;
            }
        }
        return owes - payments.paid(which, settled, day);
    }

    /** The text on the tape, cut into TOKENS and closed by END. */
    private static final class Tokens {
        // Beside words and signs, which are their bytes: a number n is ~n, so that it is below 0.
        static final long BAD = 0;
        static final long END = 1;

        private static final int LETTER = 1;
        private static final int DIGIT = 2;
        private static final int SIGN = 3;
        private static final int BLANK = 4;
        private static final int OTHERWISE = 5;

        private static final int LONGEST_WORD = 8;
        private static final int LONGEST_NUMBER = 6;

        final long[] token = new long[TAPE_BYTES + 1];
        final int[] place = new int[TAPE_BYTES + 1];
        int count;
        private int length;

        void split(byte[] text, int bytes) {
            count = 0;
            int before = BLANK;
            for (int at = 0; at < bytes && at < text.length; at++) {
                int c = text[at] & 255;
                int sort = sortOf(c);
                if (before == DIGIT && sort == LETTER) {
                    spoilLast();
                }
                if (sort == before && (sort == LETTER || sort == DIGIT)) {
                    lengthenLast(sort, c);
                } else if (sort != BLANK) {
                    begin(firstOf(sort, c), at);
                }
                before = sort;
            }
            begin(END, bytes);
        }

        private static int sortOf(int c) {
            if (isLetter(c)) {
                return LETTER;
            }
            if (c >= '0' && c <= '9') {
                return DIGIT;
            }
            if (c == SEMICOLON || c == OPEN || c == CLOSE || c == BELOW || c == ABOVE || c == ALIKE) {
                return SIGN;
            }
            return c == ' ' || c == '\n' ? BLANK : OTHERWISE;
        }

        private static long firstOf(int sort, int c) {
            if (sort == OTHERWISE) {
                return BAD;
            }
            return sort == DIGIT ? ~(long) (c - '0') : c;
        }

        private void begin(long first, int at) {
            if (count < token.length) {
                token[count] = first;
                place[count] = at;
                count++;
                length = 1;
            }
        }

        private void spoilLast() {
            if (count > 0) {
                token[count - 1] = BAD;
            }
        }

        private void lengthenLast(int sort, int c) {
            length++;
            if (length > (sort == LETTER ? LONGEST_WORD : LONGEST_NUMBER)) {
                spoilLast();
            } else if (count > 0) {
                long last = token[count - 1];
                token[count - 1] = sort == LETTER ? last << 8 | c : ~(~last * 10 + (c - '0'));
            }
        }
    }

    /** Reads TOKENS from left to right into a LAW, up to the first FAULT. */
    private static final class Reader {
        private final Tokens tokens;
        private final Law told;
        private int at;
        private long current;
        private int sums;
        private boolean shareTold;
        private boolean needTold;
        private boolean termsTold;
        int fault;
        int faultPlace = NONE;

        Reader(Tokens tokens, Law told) {
            this.tokens = tokens;
            this.told = told;
            this.current = tokens.token[0];
        }

        boolean readText() {
            boolean good = true;
            // A line has three TOKENS at least, so that there are never more lines than bytes.
            for (int line = 0; line <= TAPE_BYTES && good && current != Tokens.END; line++) {
                if (current == HURT) {
                    good = readHurt();
                } else if (current == WHEN) {
                    good = readWhen();
                } else if (current == SHARE) {
                    good = readShare();
                } else if (current == NEED) {
                    good = readNeed();
                } else if (current == TERMS) {
                    good = readTerms();
                } else {
                    good = refuse(FAULT_CANNOT_STAND);
                }
            }
            return good;
        }

        private boolean readHurt() {
            if (told.hurts >= MOST_HURTS) {
                return refuse(FAULT_CANNOT_STAND);
            }
            advance();
            long name = current;
            if (!isName(name)) {
                return refuse(FAULT_CANNOT_STAND);
            }
            if (placeIn(told.names, name) != NONE) {
                return refuse(FAULT_NAME_TOLD);
            }
            advance();
            int price = readNumber(0, HIGHEST_N);
            if (price == NONE || !expect(SEMICOLON)) {
                return false;
            }
            told.addHurt(name, price);
            return true;
        }

        private boolean readWhen() {
            if (told.whens >= MOST_WHENS) {
                return refuse(FAULT_CANNOT_STAND);
            }
            advance();
            if (!readEither(0) || !expect(DO)) {
                return false;
            }
            int deed = deedOf(current);
            if (deed == NONE) {
                return refuse(FAULT_CANNOT_STAND);
            }
            advance();
            int amount = deed == DEED_ADD || deed == DEED_LESS ? readNumber(0, HIGHEST_N) : 0;
            if (amount == NONE || !expect(SEMICOLON)) {
                return false;
            }
            told.addWhen(deed, amount);
            return true;
        }

        private boolean readShare() {
            if (shareTold) {
                return refuse(FAULT_CANNOT_STAND);
            }
            shareTold = true;
            advance();
            int all = 0;
            int last = told.share.length - 1;
            for (int degree = 0; degree <= last; degree++) {
                // A share that is 0 throughout is found wrong at its last N: there alone 0 can't be.
                int part = readNumber(degree == last && all == 0 ? 1 : 0, 100);
                if (part == NONE) {
                    return false;
                }
                told.share[degree] = part;
                all += part;
            }
            return expect(SEMICOLON);
        }

        private boolean readNeed() {
            if (needTold) {
                return refuse(FAULT_CANNOT_STAND);
            }
            needTold = true;
            advance();
            told.helpers = readNumber(0, 12);
            if (told.helpers == NONE || !expect(RANK)) {
                return false;
            }
            told.helperRank = readNumber(0, HIGHEST_RANK);
            return told.helperRank != NONE && expect(SEMICOLON);
        }

        private boolean readTerms() {
            if (termsTold) {
                return refuse(FAULT_CANNOT_STAND);
            }
            termsTold = true;
            advance();
            told.terms = readNumber(1, 6);
            if (told.terms == NONE || !expect(DAYS)) {
                return false;
            }
            told.termDays = readNumber(1, 400);
            return told.termDays != NONE && expect(SEMICOLON);
        }

        private boolean readEither(int depth) {
            if (depth >= DEEPEST) {
                return refuse(FAULT_CANNOT_STAND);
            }
            boolean good = readBoth(depth);
            for (int more = 0; more < MOST_SUMS && good && current == OR; more++) {
                advance();
                good = readBoth(depth);
                told.addStep(DO_OR);
            }
            return good;
        }

        private boolean readBoth(int depth) {
            boolean good = readOne(depth);
            for (int more = 0; more < MOST_SUMS && good && current == AND; more++) {
                advance();
                good = readOne(depth);
                told.addStep(DO_AND);
            }
            return good;
        }

        private boolean readOne(int depth) {
            if (depth >= DEEPEST) {
                return refuse(FAULT_CANNOT_STAND);
            }
            if (current == NOT) {
                advance();
                boolean good = readOne(depth + 1);
                told.addStep(DO_NOT);
                return good;
            }
            if (current == OPEN) {
                advance();
                return readEither(depth + 1) && expect(CLOSE);
            }
            if (!readOperand()) {
                return false;
            }
            int comparison = comparisonOf(current);
            if (comparison == NONE) {
                return true;
            }
            advance();
            boolean good = readOperand();
            told.addStep(comparison);
            return good;
        }

        private boolean readOperand() {
            int fact = placeIn(FACT_WORDS, current);
            if (current >= 0 && fact == NONE || sums >= MOST_SUMS) {
                return refuse(FAULT_CANNOT_STAND);
            }
            told.addStep(current < 0 ? (int) ~current : -1 - fact);
            sums++;
            advance();
            return true;
        }

        private int readNumber(int least, int most) {
            if (current >= 0) {
                refuse(FAULT_CANNOT_STAND);
                return NONE;
            }
            int number = (int) ~current;
            if (number < least || number > most) {
                refuse(FAULT_NUMBER);
                return NONE;
            }
            advance();
            return number;
        }

        private boolean expect(long wanted) {
            if (current != wanted) {
                return refuse(FAULT_CANNOT_STAND);
            }
            advance();
            return true;
        }

        private boolean refuse(int kind) {
            // Of the FAULTS at one place the least counts, and no TOKEN is the least of all.
            fault = current == Tokens.BAD ? FAULT_NO_TOKEN : kind;
            faultPlace = tokens.place[at];
            return false;
        }

        private void advance() {
            if (at + 1 < tokens.count) {
                at++;
                current = tokens.token[at];
            }
        }

        private static int deedOf(long word) {
            if (word == DOUBLE) {
                return DEED_DOUBLE;
            }
            if (word == HALF) {
                return DEED_HALF;
            }
            if (word == ADD) {
                return DEED_ADD;
            }
            return word == LESS ? DEED_LESS : NONE;
        }

        private static int comparisonOf(long sign) {
            if (sign == BELOW) {
                return DO_BELOW;
            }
            if (sign == ABOVE) {
                return DO_ABOVE;
            }
            return sign == ALIKE ? DO_ALIKE : NONE;
        }
    }

    /** A LAW: what a text tells, in force from a day on. */
    private static final class Law {
        final int from;
        final long[] names = new long[MOST_HURTS];
        final int[] share = {1, 0, 0, 0};
        int hurts;
        int whens;
        int helpers;
        int helperRank;
        int terms = 1;
        int termDays = 1;
        private final int[] prices = new int[MOST_HURTS];
        private final int[] deeds = new int[MOST_WHENS];
        private final int[] amounts = new int[MOST_WHENS];
        private final int[] stepsUpTo = new int[MOST_WHENS];
        private final int[] steps;
        private int stepCount;
        private final int[] stack = new int[MOST_SUMS];

        /** No TOKEN makes more than one step of an e. */
        Law(int from, int tokenCount) {
            this.from = from;
            this.steps = new int[tokenCount > 0 ? tokenCount : 0];
        }

        void addHurt(long name, int price) {
            if (hurts < MOST_HURTS) {
                names[hurts] = name;
                prices[hurts] = price;
                hurts++;
            }
        }

        void addStep(int step) {
            if (stepCount < steps.length) {
                steps[stepCount] = step;
                stepCount++;
            }
        }

        void addWhen(int deed, int amount) {
            if (whens < MOST_WHENS) {
                deeds[whens] = deed;
                amounts[whens] = amount;
                stepsUpTo[whens] = stepCount;
                whens++;
            }
        }

        int partOfDegree(int whole, int degree) {
            int all = share[0] + share[1] + share[2] + share[3];
            if (all <= 0 || degree < 0 || degree >= share.length) {
                return 0;
            }
            return (int) ((long) whole * share[degree] / all);
        }

        int priceOf(int hurt, int[] facts) {
            int price = hurt >= 0 && hurt < hurts ? prices[hurt] : 0;
            int firstStep = 0;
            for (int when = 0; when < whens; when++) {
                facts[FACT_SUM] = price;
                if (holds(firstStep, stepsUpTo[when], facts)) {
                    price = changed(price, deeds[when], amounts[when]);
                }
                firstStep = stepsUpTo[when];
            }
            return price;
        }

        private static int changed(int price, int deed, int amount) {
            switch (deed) {
                case DEED_DOUBLE:
                    return Math.min(price * 2, HIGHEST_SUM);
                case DEED_HALF:
                    return price / 2;
                case DEED_ADD:
                    return Math.min(price + amount, HIGHEST_SUM);
                default:
                    return Math.max(price - amount, 0);
            }
        }

        private boolean holds(int firstStep, int end, int[] facts) {
            int top = 0;
            for (int i = firstStep; i < end && i < steps.length; i++) {
                int step = steps[i];
                if (step > DO_NOT) {
                    if (top < stack.length) {
                        stack[top] = operand(step, facts);
                        top++;
                    }
                } else if (step == DO_NOT) {
                    if (top > 0) {
                        stack[top - 1] = stack[top - 1] == 0 ? 1 : 0;
                    }
                } else if (top > 1) {
                    top--;
                    stack[top - 1] = joined(step, stack[top - 1], stack[top]) ? 1 : 0;
                }
            }
            return top > 0 && stack[0] != 0;
        }

        private static int operand(int step, int[] facts) {
            int fact = -1 - step;
            return fact >= 0 && fact < facts.length ? facts[fact] : step;
        }

        private static boolean joined(int step, int left, int right) {
            switch (step) {
                case DO_AND:
                    return left != 0 && right != 0;
                case DO_OR:
                    return left != 0 || right != 0;
                case DO_BELOW:
                    return left < right;
                case DO_ABOVE:
                    return left > right;
                default:
                    return left == right;
            }
        }
    }

    /** The PEOPLE, with rows for one count of STEPS and one choice of sharers at a time. */
    private static final class People {
        private final int[] folk = new int[MOST_PEOPLE];
        private final int[] mother = new int[MOST_PEOPLE];
        private final int[] father = new int[MOST_PEOPLE];
        private final int[] deadFrom = new int[MOST_PEOPLE];
        final int[] steps = new int[MOST_PEOPLE];
        final boolean[] sharing = new boolean[MOST_PEOPLE];
        int sharers;
        int count;

        boolean isThere(int person) {
            return person >= 0 && person < count;
        }

        boolean canBeParent(int person) {
            return person == NONE || isThere(person);
        }

        int add(int itsFolk, int itsMother, int itsFather) {
            if (count >= MOST_PEOPLE) {
                return NONE;
            }
            folk[count] = itsFolk;
            mother[count] = itsMother;
            father[count] = itsFather;
            deadFrom[count] = NONE;
            count++;
            return count - 1;
        }

        int folkOf(int person) {
            return isThere(person) ? folk[person] : NONE;
        }

        boolean bury(int person, int day) {
            if (!isThere(person) || deadFrom[person] != NONE) {
                return false;
            }
            deadFrom[person] = day;
            return true;
        }

        boolean deadOn(int person, int day) {
            return isThere(person) && deadFrom[person] != NONE && deadFrom[person] <= day;
        }

        int stepsBetween(int a, int b) {
            if (!isThere(a) || !isThere(b)) {
                return NONE;
            }
            measureFrom(a);
            return steps[b];
        }

        void measureFrom(int start) {
            for (int person = 0; person < count; person++) {
                steps[person] = person == start ? 0 : NONE;
            }
            for (int reached = 0; reached < count; reached++) {
                for (int child = 0; child < count; child++) {
                    stepBetween(child, mother[child], reached);
                    stepBetween(child, father[child], reached);
                }
            }
        }

        private void stepBetween(int child, int parent, int reached) {
            if (!isThere(parent)) {
                return;
            }
            if (steps[child] == reached && steps[parent] == NONE) {
                steps[parent] = reached + 1;
            } else if (steps[parent] == reached && steps[child] == NONE) {
                steps[child] = reached + 1;
            }
        }

        /** Those who share a DEGREE's part; measureFrom(head) goes ahead of it. */
        void pickSharers(int head, int leftOut, int degree, int day) {
            sharers = 0;
            for (int person = 0; person < count; person++) {
                sharing[person] = steps[person] == degree
                    && person != leftOut
                    && folk[person] == folkOf(head)
                    && !deadOn(person, day);
                sharers += sharing[person] ? 1 : 0;
            }
        }
    }

    /** The TOLDS of RANKS. */
    private static final class Tolds {
        private final int[] person = new int[MOST_TOLDS];
        private final int[] level = new int[MOST_TOLDS];
        private final int[] from = new int[MOST_TOLDS];
        private final int[] toldOn = new int[MOST_TOLDS];
        int count;

        int add(int who, int itsLevel, int fromDay, int today) {
            if (count >= MOST_TOLDS) {
                return NONE;
            }
            person[count] = who;
            level[count] = itsLevel;
            from[count] = fromDay;
            toldOn[count] = today;
            count++;
            return count;
        }

        int rankAsKnown(int who, int day, int known) {
            int best = 0;
            int bestFrom = NONE;
            for (int i = 0; i < count; i++) {
                boolean counts = person[i] == who && toldOn[i] <= known && from[i] <= day;
                if (counts && from[i] >= bestFrom) {
                    best = level[i];
                    bestFrom = from[i];
                }
            }
            return best;
        }
    }

    /** The TRUCES. */
    private static final class Truces {
        private final int[] one = new int[MOST_TRUCES];
        private final int[] another = new int[MOST_TRUCES];
        private final int[] from = new int[MOST_TRUCES];
        private final int[] upTo = new int[MOST_TRUCES];
        int count;

        int add(int a, int b, int firstDay, int lastDay) {
            if (count >= MOST_TRUCES) {
                return NONE;
            }
            one[count] = a;
            another[count] = b;
            from[count] = firstDay;
            upTo[count] = lastDay;
            count++;
            return count;
        }

        boolean held(int a, int b, int day) {
            for (int i = 0; i < count; i++) {
                boolean between = one[i] == a && another[i] == b || one[i] == b && another[i] == a;
                if (between && from[i] <= day && day <= upTo[i]) {
                    return true;
                }
            }
            return false;
        }
    }

    /** A CASE; what is due is kept from its judging, since later LAWS and TOLDS don't change a judgement. */
    private static final class Case {
        final int doer;
        final int victim;
        final long name;
        final int day;
        final int place;
        final boolean night;
        int cleared = NONE;
        int judged = NONE;
        int due;
        int terms;
        int termDays;

        Case(int doer, int victim, long name, int day, int place, boolean night) {
            this.doer = doer;
            this.victim = victim;
            this.name = name;
            this.day = day;
            this.place = place;
            this.night = night;
        }

        int dueIn(int term) {
            if (terms <= 0) {
                return 0;
            }
            return term == 0 ? due / terms + due % terms : due / terms;
        }
    }

    /** The PAYMENTS, each at what it was worth when it was made. */
    private static final class Payments {
        private final int[] which = new int[MOST_PAYMENTS];
        private final int[] day = new int[MOST_PAYMENTS];
        private final int[] worth = new int[MOST_PAYMENTS];
        int count;

        int add(int forCase, int today, int itsWorth) {
            if (count >= MOST_PAYMENTS) {
                return NONE;
            }
            which[count] = forCase;
            day[count] = today;
            worth[count] = itsWorth;
            count++;
            return itsWorth;
        }

        int paid(int forCase, int after, int upTo) {
            int all = 0;
            for (int i = 0; i < count; i++) {
                if (which[i] == forCase && day[i] > after && day[i] <= upTo) {
                    all += worth[i];
                }
            }
            return all;
        }
    }
}
