/**
 * The books of an appeal for a tower, as ../shared/DOC.md promises them.
 * Months are 0 to 119; sums are in pence, and are kept as longs so that no product of two of them wraps.
 */
public final class TowerAppeal {
    public static final int NONE = -1;
    public static final int RANGE = -2;
    public static final int FULL = -3;
    public static final int STATE = -4;

    private static final int NO_SUCH_RULE = -9;
    private static final int LAST_MONTH = 119;
    private static final int GIVERS = 30;
    private static final int MOST_PLEDGES = 60;
    private static final int MOST_DUES = 84;
    private static final int MOST_EVERY = 12;
    private static final int MOST_DUE_PENCE = 100000;
    private static final int MOST_SUM_PENCE = 5000000;
    private static final int MOST_SUMS = 250;
    private static final int MOST_STAGES = 8;
    private static final int MOST_STAGE_PENCE = 100000000;
    private static final int MOST_STAGE_MONTHS = 24;
    private static final int MOST_MONTHS_A_CALL = 24;
    private static final int MOST_SURE_MONTHS = 84;
    private static final int PENCE_A_POUND = 100;

    private final Tape tape;
    private final TrustReader reader;
    private final Trust inForce;
    private final Givers givers;
    private final PledgeBook pledges;
    private final Sums sums;
    private final Purse purse;
    private final Tower tower;
    private int clock;
    private boolean stopped;

    public TowerAppeal() {
        tape = new Tape();
        reader = new TrustReader();
        inForce = new Trust();
        givers = new Givers();
        pledges = new PledgeBook();
        sums = new Sums();
        purse = new Purse();
        tower = new Tower();
    }

    public int feed(int a, int b, int c, int d, int e) {
        if (!tape.hasRoomForTwenty()) {
            return FULL;
        }
        tape.putFour(a);
        tape.putFour(b);
        tape.putFour(c);
        tape.putFour(d);
        tape.putFour(e);
        return tape.length();
    }

    public int end(int n) {
        if (n < 0 || n > tape.length()) {
            return NONE;
        }
        tape.cutTo(n);
        return n;
    }

    public int trust() {
        int lines = reader.read(tape);
        tape.cutTo(0);
        if (lines != NONE) {
            inForce.takeOver(reader.draft());
        }
        return lines;
    }

    public int fault(int what) {
        if (what == 0) {
            return reader.faultKind();
        }
        return what == 1 ? reader.faultPlace() : NONE;
    }

    public int rule(int what) {
        return what >= 0 && what < Trust.RULES ? inForce.at(what) : NO_SUCH_RULE;
    }

    public int declare(int g, int from, int to) {
        if (!isGiver(g) || from < 0 || from > to || to > LAST_MONTH) {
            return RANGE;
        }
        if (stopped) {
            return STATE;
        }
        givers.setDeclaration(g, from, to);
        return 1;
    }

    public int nameless(int g, boolean is) {
        if (!isGiver(g)) {
            return RANGE;
        }
        if (stopped) {
            return STATE;
        }
        return givers.setWithoutName(g, is) ? 1 : 0;
    }

    public int pledge(int g, int pence, int first, int every, int dues) {
        if (!isGiver(g) || !isWithin(pence, 1, MOST_DUE_PENCE) || !isWithin(first, clock, LAST_MONTH)
                || !isWithin(every, 1, MOST_EVERY) || !isWithin(dues, 1, MOST_DUES)) {
            return RANGE;
        }
        if (stopped) {
            return STATE;
        }
        if (pledges.isFull()) {
            return FULL;
        }
        return pledges.add(new Pledge(g, pence, first, every, dues));
    }

    public int change(int p, int pence) {
        Pledge one = pledges.at(p);
        if (one == null || !isWithin(pence, 1, MOST_DUE_PENCE)) {
            return RANGE;
        }
        if (stopped || one.isLapsed()) {
            return STATE;
        }
        one.setPence(pence, clock);
        return 1;
    }

    public int pay(int p, int pence) {
        Pledge one = pledges.at(p);
        if (one == null || !isSum(pence)) {
            return RANGE;
        }
        // A lapsed pledge has no dues, so that any sum would be too much: STATE has to come first for it.
        if (one.isLapsed()) {
            return STATE;
        }
        if (pence > one.unfilled()) {
            return RANGE;
        }
        if (stopped) {
            return STATE;
        }
        if (sums.isFull()) {
            return FULL;
        }
        one.fill(pence);
        return receive(one.giverNumber(), pence);
    }

    public int gift(int g, int pence) {
        if (!isGiver(g) || !isSum(pence)) {
            return RANGE;
        }
        if (stopped) {
            return STATE;
        }
        return sums.isFull() ? FULL : receive(g, pence);
    }

    public int takeUp(int p) {
        Pledge one = pledges.at(p);
        if (one == null) {
            return RANGE;
        }
        if (stopped || !one.mayBeTakenUp()) {
            return STATE;
        }
        one.standAgain(clock);
        return one.duesToCome(clock);
    }

    public int claim() {
        if (stopped) {
            return STATE;
        }
        int tax = sums.claimTax(inForce.taxHundredths(), givers);
        purse.takeTax(tax);
        return tax;
    }

    public int about(int p, int what) {
        // The document puts RANGE alone ahead of STATE; what isn't there is NONE here, so STATE comes first.
        if (stopped) {
            return STATE;
        }
        Pledge one = pledges.at(p);
        if (one == null) {
            return NONE;
        }
        switch (what) {
            case 0: return one.giverNumber();
            case 1: return one.penceToCome();
            case 2: return one.overdue(clock);
            case 3: return one.filledInAll();
            case 4: return one.unfilled();
            case 5: return one.isLapsed() ? 1 : 0;
            case 6: return one.firstLapse();
            case 7: return one.nextDue(clock);
            default: return NONE;
        }
    }

    public int giver(int g, int what) {
        if (!isGiver(g) || !isWithin(what, 0, 4)) {
            return RANGE;
        }
        if (stopped) {
            return STATE;
        }
        switch (what) {
            case 0: return sums.givenBy(g);
            case 1: return sums.unclaimedOf(g);
            case 2: return givers.declaredFrom(g);
            case 3: return givers.declaredTo(g);
            default: return givers.isWithoutName(g) ? 1 : 0;
        }
    }

    public int stage(int cost, int months) {
        if (!isWithin(cost, 1, MOST_STAGE_PENCE) || !isWithin(months, 1, MOST_STAGE_MONTHS)) {
            return RANGE;
        }
        if (stopped) {
            return STATE;
        }
        return tower.isFull() ? FULL : tower.add(new Stage(cost, months));
    }

    public int begin() {
        if (stopped || !tower.mayStartNext()) {
            return STATE;
        }
        return tower.startNext();
    }

    public int built(int s, int what) {
        Stage one = tower.at(s);
        if (one == null) {
            return NONE;
        }
        switch (what) {
            case 0: return one.cost();
            case 1: return one.parts();
            case 2: return one.progress();
            case 3: return one.paid();
            case 4: return one.paused();
            default: return NONE;
        }
    }

    public int months(int n) {
        if (!isWithin(n, 1, MOST_MONTHS_A_CALL) || clock + n > LAST_MONTH) {
            return RANGE;
        }
        if (stopped) {
            return STATE;
        }
        for (int i = 0; i < n; i++) {
            endMonth();
        }
        return clock;
    }

    public int sure(int n) {
        return isWithin(n, 1, MOST_SURE_MONTHS) ? pledges.sureWithin(n, clock) : RANGE;
    }

    public int stone(int i) {
        int stones = givers.orderStones(sums, inForce.stonePence());
        return i >= 0 && i < stones ? givers.ofStone(i) : NONE;
    }

    public int stop() {
        if (stopped) {
            return STATE;
        }
        stopped = true;
        int given = givers.partCoin(purse.coin(), sums, inForce.givesAllBack());
        purse.giveBack(given);
        return given;
    }

    public int back(int g) {
        return isGiver(g) ? givers.gotBack(g) : RANGE;
    }

    public int count(int what) {
        switch (what) {
            case 0: return clock;
            case 1: return (int) purse.coin();
            case 2: return (int) purse.loan();
            case 3: return (int) sums.total();
            case 4: return (int) purse.matched();
            case 5: return (int) purse.tax();
            case 6: return (int) purse.paidForStages();
            case 7: return (int) purse.grown();
            case 8: return pledges.size();
            case 9: return pledges.lapsedNow();
            case 10: return tower.size();
            case 11: return sums.size();
            case 12: return stopped ? 1 : 0;
            case 13: return tape.length();
            case 14: return givers.orderStones(sums, inForce.stonePence());
            default: return NONE;
        }
    }

    private static boolean isGiver(int g) {
        return g >= 0 && g < GIVERS;
    }

    private static boolean isSum(int pence) {
        return isWithin(pence, 1, MOST_SUM_PENCE);
    }

    private static boolean isWithin(int n, int least, int most) {
        return n >= least && n <= most;
    }

    /** Books a sum that came; answers what is matched of it. */
    private int receive(int g, int pence) {
        sums.add(g, pence, clock);
        return purse.takeSum(pence, clock, inForce);
    }

    private void endMonth() {
        pledges.lapseAll(clock, inForce.lapseDues());
        purse.growLoan(inForce.loanThousandths());
        tower.payPart(purse, inForce.loanPence());
        purse.payBackLoan();
        clock++;
    }

    /** THE TAPE. */
    private static final class Tape {
        private static final int ROOM = 400;
        private static final int BYTES_A_FEED = 20;

        private final byte[] bytes = new byte[ROOM];
        private int length;

        int length() {
            return length;
        }

        boolean hasRoomForTwenty() {
            return length <= ROOM - BYTES_A_FEED;
        }

        void putFour(int four) {
            for (int shift = 24; shift >= 0; shift -= 8) {
                if (length >= 0 && length < ROOM) {
                    bytes[length] = (byte) (four >>> shift);
                    length++;
                }
            }
        }

        void cutTo(int n) {
            length = n;
        }

        /** The byte at a place, 0 to 255; NONE behind the last one. */
        int at(int place) {
            return place >= 0 && place < length && place < ROOM ? bytes[place] & 255 : NONE;
        }
    }

    /** The rules of a TRUST, by the numbers that rule(what) has for them. */
    private static final class Trust {
        static final int RULES = 9;
        private static final int HUNDREDTHS = 0;
        private static final int CAP = 1;
        private static final int TILL = 2;
        private static final int TAX = 3;
        private static final int LAPSE = 4;
        private static final int LOAN = 5;
        private static final int THOUSANDTHS = 6;
        private static final int STONE = 7;
        static final int STOP = 8;
        private static final int[] UNTOLD = {0, 0, 0, 0, 3, 0, 0, 1000, 0};

        private final int[] rules = new int[RULES];

        Trust() {
            System.arraycopy(UNTOLD, 0, rules, 0, RULES);
        }

        void forget() {
            System.arraycopy(UNTOLD, 0, rules, 0, RULES);
        }

        void takeOver(Trust other) {
            System.arraycopy(other.rules, 0, rules, 0, RULES);
        }

        int at(int what) {
            return what >= 0 && what < RULES ? rules[what] : 0;
        }

        void put(int what, int value) {
            if (what >= 0 && what < RULES) {
                rules[what] = value;
            }
        }

        int matchHundredths() {
            return rules[HUNDREDTHS];
        }

        int matchCapPence() {
            return rules[CAP] * PENCE_A_POUND;
        }

        int matchTill() {
            return rules[TILL];
        }

        int taxHundredths() {
            return rules[TAX];
        }

        int lapseDues() {
            return rules[LAPSE];
        }

        int loanPence() {
            return rules[LOAN] * PENCE_A_POUND;
        }

        int loanThousandths() {
            return rules[THOUSANDTHS];
        }

        int stonePence() {
            return rules[STONE] * PENCE_A_POUND;
        }

        boolean givesAllBack() {
            return rules[STOP] == 1;
        }
    }

    /** Reads a TRUST's text token by token, up to its end or its first FAULT. */
    private static final class TrustReader {
        private static final int SYNTAX = 1;
        private static final int OUT_OF_BOUNDS = 2;
        private static final int TWICE = 3;

        private static final int AT_END = 0;
        private static final int WORD = 1;
        private static final int NUMBER = 2;
        private static final int SEMICOLON = 3;
        private static final int NO_TOKEN = 4;
        private static final int MOST_DIGITS = 6;

        private static final int LINES = 6;
        private static final int STOP_LINE = 5;
        private static final int NO_LINE = -1;
        // Of each line that has numbers: its first rule, and how many rules it tells.
        private static final int[] FIRST_RULE = {0, 3, 4, 5, 7};
        private static final int[] NUMBERS = {3, 1, 1, 2, 1};
        // Of each rule that is a number: its bounds.
        private static final int[] LEAST = {0, 0, 0, 0, 1, 0, 0, 1};
        private static final int[] MOST = {100, 999999, 119, 50, 12, 999999, 10, 999999};

        private final Trust draft = new Trust();
        private final boolean[] told = new boolean[LINES];
        private int head;
        private int token;
        private int tokenStart;
        private int tokenValue;
        private int faultKind;
        private int faultPlace = NONE;

        Trust draft() {
            return draft;
        }

        int faultKind() {
            return faultKind;
        }

        int faultPlace() {
            return faultPlace;
        }

        /** How many lines the text has; NONE with a FAULT. */
        int read(Tape tape) {
            startAnew();
            int lines = 0;
            // A line more than there are kinds of lines: it is the text's end or a FAULT.
            for (int i = 0; i <= LINES; i++) {
                readToken(tape);
                if (token == AT_END) {
                    return lines;
                }
                readLine(tape);
                if (faultKind != 0) {
                    return NONE;
                }
                lines++;
            }
            return NONE;
        }

        private void startAnew() {
            draft.forget();
            for (int i = 0; i < LINES; i++) {
                told[i] = false;
            }
            head = 0;
            faultKind = 0;
            faultPlace = NONE;
        }

        private void refuse(int kind) {
            faultKind = kind;
            faultPlace = tokenStart;
        }

        private void readLine(Tape tape) {
            int line = token == WORD ? lineOfWord(tape) : NO_LINE;
            if (line < 0 || line >= LINES) {
                refuse(SYNTAX);
                return;
            }
            if (told[line]) {
                refuse(TWICE);
                return;
            }
            told[line] = true;
            if (line == STOP_LINE) {
                readStop(tape);
            } else {
                readNumbers(tape, line);
            }
            if (faultKind == 0) {
                readToken(tape);
                if (token != SEMICOLON) {
                    refuse(SYNTAX);
                }
            }
        }

        private void readNumbers(Tape tape, int line) {
            if (line < 0 || line >= FIRST_RULE.length || line >= NUMBERS.length) {
                return;
            }
            int first = FIRST_RULE[line];
            int behind = first + NUMBERS[line];
            for (int rule = first; rule < behind && faultKind == 0; rule++) {
                readToken(tape);
                if (token != NUMBER) {
                    refuse(SYNTAX);
                } else if (!isInBounds(rule, tokenValue)) {
                    refuse(OUT_OF_BOUNDS);
                } else {
                    draft.put(rule, tokenValue);
                }
            }
        }

        private static boolean isInBounds(int rule, int value) {
            return rule >= 0 && rule < LEAST.length && rule < MOST.length
                    && value >= LEAST[rule] && value <= MOST[rule];
        }

        private void readStop(Tape tape) {
            readToken(tape);
            if (token == WORD && isWord(tape, "all")) {
                draft.put(Trust.STOP, 1);
            } else if (token == WORD && isWord(tape, "left")) {
                draft.put(Trust.STOP, 0);
            } else {
                refuse(SYNTAX);
            }
        }

        private int lineOfWord(Tape tape) {
            if (isWord(tape, "match")) {
                return 0;
            }
            if (isWord(tape, "tax")) {
                return 1;
            }
            if (isWord(tape, "lapse")) {
                return 2;
            }
            if (isWord(tape, "loan")) {
                return 3;
            }
            if (isWord(tape, "stone")) {
                return 4;
            }
            return isWord(tape, "stop") ? STOP_LINE : NO_LINE;
        }

        /** Is the token that was read last this word, and no longer? */
        private boolean isWord(Tape tape, String word) {
            if (head - tokenStart != word.length()) {
                return false;
            }
            for (int i = 0; i < word.length(); i++) {
                if (tape.at(tokenStart + i) != word.charAt(i)) {
                    return false;
                }
            }
            return true;
        }

        private void readToken(Tape tape) {
            while (head < tape.length() && isBlank(tape.at(head))) {
                head++;
            }
            tokenStart = head;
            int sign = tape.at(head);
            if (sign == NONE) {
                token = AT_END;
            } else if (isLetter(sign)) {
                readWord(tape);
            } else if (isDigit(sign)) {
                readNumber(tape);
            } else {
                head++;
                token = sign == ';' ? SEMICOLON : NO_TOKEN;
            }
        }

        private void readWord(Tape tape) {
            while (head < tape.length() && isLetter(tape.at(head))) {
                head++;
            }
            token = WORD;
        }

        private void readNumber(Tape tape) {
            tokenValue = 0;
            while (head < tape.length() && isDigit(tape.at(head))) {
                if (head - tokenStart < MOST_DIGITS) {
                    tokenValue = tokenValue * 10 + tape.at(head) - '0';
                }
                head++;
            }
            token = head - tokenStart <= MOST_DIGITS ? NUMBER : NO_TOKEN;
        }

        private static boolean isBlank(int sign) {
            return sign == 32 || sign == 10;
        }

        private static boolean isLetter(int sign) {
            return sign >= 'a' && sign <= 'z';
        }

        private static boolean isDigit(int sign) {
            return sign >= '0' && sign <= '9';
        }
    }

    /** What is known of each GIVER beside his SUMS. */
    private static final class Givers {
        private final int[] from = new int[GIVERS];
        private final int[] to = new int[GIVERS];
        private final boolean[] withoutName = new boolean[GIVERS];
        private final int[] gotBack = new int[GIVERS];
        // Rows that orderStones writes anew each time.
        private final int[] gaveSoFar = new int[GIVERS];
        private final int[] stoneOrder = new int[GIVERS];

        Givers() {
            for (int g = 0; g < GIVERS; g++) {
                from[g] = NONE;
                to[g] = NONE;
            }
        }

        void setDeclaration(int g, int first, int last) {
            if (isGiver(g)) {
                from[g] = first;
                to[g] = last;
            }
        }

        int declaredFrom(int g) {
            return isGiver(g) ? from[g] : NONE;
        }

        int declaredTo(int g) {
            return isGiver(g) ? to[g] : NONE;
        }

        boolean hasDeclared(int g, int month) {
            return isGiver(g) && from[g] != NONE && month >= from[g] && month <= to[g];
        }

        /** Was it otherwise? */
        boolean setWithoutName(int g, boolean is) {
            if (!isGiver(g) || withoutName[g] == is) {
                return false;
            }
            withoutName[g] = is;
            return true;
        }

        boolean isWithoutName(int g) {
            return isGiver(g) && withoutName[g];
        }

        int gotBack(int g) {
            return isGiver(g) ? gotBack[g] : 0;
        }

        /** The GIVER whom the latest orderStones put at a place. */
        int ofStone(int place) {
            return place >= 0 && place < GIVERS ? stoneOrder[place] : NONE;
        }

        /** Puts those with a STONE in the order in which their SUMS came to as much; answers how many. */
        int orderStones(Sums sums, int stonePence) {
            for (int g = 0; g < GIVERS; g++) {
                gaveSoFar[g] = 0;
            }
            int stones = 0;
            for (int i = 0; i < sums.size(); i++) {
                int g = sums.giverOf(i);
                if (isGiver(g)) {
                    boolean had = gaveSoFar[g] >= stonePence;
                    gaveSoFar[g] += sums.penceOf(i);
                    boolean has = !had && gaveSoFar[g] >= stonePence;
                    if (has && !withoutName[g] && stones < GIVERS) {
                        stoneOrder[stones] = g;
                        stones++;
                    }
                }
            }
            return stones;
        }

        /** Gives each his part of the COIN; answers how much that is in all. */
        int partCoin(long coin, Sums sums, boolean givesAllBack) {
            long all = sums.total();
            boolean inFull = givesAllBack && coin >= all;
            int given = 0;
            for (int g = 0; g < GIVERS; g++) {
                int gave = sums.givenBy(g);
                if (inFull) {
                    gotBack[g] = gave;
                } else if (all > 0) {
                    gotBack[g] = (int) (coin * gave / all);
                }
                given += gotBack[g];
            }
            return given;
        }
    }

    /** All SUMS, in the order in which they came. */
    private static final class Sums {
        private final int[] giver = new int[MOST_SUMS];
        private final int[] pence = new int[MOST_SUMS];
        private final int[] month = new int[MOST_SUMS];
        private final boolean[] claimed = new boolean[MOST_SUMS];
        private int size;
        private long total;

        int size() {
            return size;
        }

        long total() {
            return total;
        }

        boolean isFull() {
            return size >= MOST_SUMS;
        }

        void add(int g, int howMuch, int when) {
            if (size >= 0 && size < MOST_SUMS) {
                giver[size] = g;
                pence[size] = howMuch;
                month[size] = when;
                size++;
                total += howMuch;
            }
        }

        int giverOf(int i) {
            return i >= 0 && i < size && i < MOST_SUMS ? giver[i] : NONE;
        }

        int penceOf(int i) {
            return i >= 0 && i < size && i < MOST_SUMS ? pence[i] : 0;
        }

        int givenBy(int g) {
            int given = 0;
            for (int i = 0; i < size && i < MOST_SUMS; i++) {
                if (giver[i] == g) {
                    given += pence[i];
                }
            }
            return given;
        }

        int unclaimedOf(int g) {
            int unclaimed = 0;
            for (int i = 0; i < size && i < MOST_SUMS; i++) {
                if (giver[i] == g && !claimed[i]) {
                    unclaimed += pence[i];
                }
            }
            return unclaimed;
        }

        int claimTax(int hundredths, Givers givers) {
            if (hundredths == 0) {
                return 0;
            }
            long tax = 0;
            for (int i = 0; i < size && i < MOST_SUMS; i++) {
                if (!claimed[i] && givers.hasDeclared(giver[i], month[i])) {
                    claimed[i] = true;
                    tax += (long) pence[i] * hundredths / 100;
                }
            }
            return (int) tax;
        }
    }

    /** COIN and the LOAN, and what came into and went out of them. */
    private static final class Purse {
        private long coin;
        private long loan;
        private long matched;
        private long tax;
        private long paidForStages;
        private long grown;

        long coin() {
            return coin;
        }

        long loan() {
            return loan;
        }

        long matched() {
            return matched;
        }

        long tax() {
            return tax;
        }

        long paidForStages() {
            return paidForStages;
        }

        long grown() {
            return grown;
        }

        /** Takes a SUM and what is MATCHED of it; answers the latter. */
        int takeSum(int pence, int month, Trust trust) {
            long match = 0;
            if (month <= trust.matchTill()) {
                long wished = (long) pence * trust.matchHundredths() / 100;
                // A later TRUST may have put the cap below what was MATCHED before.
                long left = Math.max(0, trust.matchCapPence() - matched);
                match = Math.min(wished, left);
            }
            matched += match;
            coin += pence + match;
            return (int) match;
        }

        void takeTax(int pence) {
            tax += pence;
            coin += pence;
        }

        void growLoan(int thousandths) {
            long growth = loan * thousandths / 1000;
            loan += growth;
            grown += growth;
        }

        /** Pays a STAGE's part, if COIN and what may still be drawn are as much; was it paid? */
        boolean paysPart(int part, int mostLoan) {
            // The LOAN may be above its most, by growth or by a later TRUST: then nothing may be drawn.
            long drawable = Math.max(0, mostLoan - loan);
            if (coin + drawable < part) {
                return false;
            }
            long drawn = Math.max(0, part - coin);
            loan += drawn;
            coin += drawn - part;
            paidForStages += part;
            return true;
        }

        void payBackLoan() {
            long paid = Math.min(coin, loan);
            coin -= paid;
            loan -= paid;
        }

        void giveBack(int pence) {
            coin -= pence;
        }
    }

    /** A PLEDGE with its dues, the earliest first. */
    private static final class Pledge {
        // A due that is there, filled or not.
        private static final int THERE = 0;
        // A due that was there in its month, and is none any more by a lapse.
        private static final int LOST = 1;
        // A due whose month was still to come at a lapse: none, unless it is taken up ahead of it.
        private static final int NEVER = 2;

        private final int giverNumber;
        private final int first;
        private final int every;
        private final int size;
        private final int[] owed;
        private final int[] filled;
        private final int[] standing;
        private int penceToCome;
        private int filledInAll;
        private boolean lapsed;
        private boolean takenUp;
        private int firstLapse = NONE;

        Pledge(int giverNumber, int pence, int first, int every, int dues) {
            this.giverNumber = giverNumber;
            this.first = first;
            this.every = every;
            size = duesThatCome(first, every, dues);
            owed = new int[size];
            filled = new int[size];
            standing = new int[size];
            penceToCome = pence;
            for (int i = 0; i < size; i++) {
                owed[i] = pence;
            }
        }

        private static int duesThatCome(int first, int every, int dues) {
            int coming = 0;
            for (int i = 0; i < dues && i < MOST_DUES; i++) {
                if (first + i * every <= LAST_MONTH) {
                    coming++;
                }
            }
            return coming;
        }

        private int monthOf(int due) {
            return first + due * every;
        }

        int giverNumber() {
            return giverNumber;
        }

        int penceToCome() {
            return penceToCome;
        }

        int filledInAll() {
            return filledInAll;
        }

        boolean isLapsed() {
            return lapsed;
        }

        int firstLapse() {
            return firstLapse;
        }

        boolean mayBeTakenUp() {
            return lapsed && !takenUp;
        }

        int overdue(int clock) {
            int overdue = 0;
            for (int i = 0; i < size && monthOf(i) <= clock; i++) {
                if (standing[i] == THERE && filled[i] < owed[i]) {
                    overdue++;
                }
            }
            return overdue;
        }

        int unfilled() {
            return unfilledWithin(0, LAST_MONTH);
        }

        int unfilledWithin(int from, int to) {
            int unfilled = 0;
            for (int i = 0; i < size && monthOf(i) <= to; i++) {
                if (monthOf(i) >= from && standing[i] == THERE) {
                    unfilled += owed[i] - filled[i];
                }
            }
            return unfilled;
        }

        int nextDue(int clock) {
            if (lapsed) {
                return NONE;
            }
            for (int i = 0; i < size; i++) {
                if (monthOf(i) > clock && standing[i] == THERE) {
                    return monthOf(i);
                }
            }
            return NONE;
        }

        int duesToCome(int clock) {
            int coming = 0;
            for (int i = 0; i < size; i++) {
                if (monthOf(i) > clock && standing[i] == THERE) {
                    coming++;
                }
            }
            return coming;
        }

        /** What all dues up to the CLOCK's month are, those lost by a lapse too. */
        int dueSoFar(int clock) {
            int due = 0;
            for (int i = 0; i < size && monthOf(i) <= clock; i++) {
                if (standing[i] != NEVER) {
                    due += owed[i];
                }
            }
            return due;
        }

        /** What was filled of the dues that dueSoFar counts. */
        int filledSoFar(int clock) {
            int sum = 0;
            for (int i = 0; i < size && monthOf(i) <= clock; i++) {
                if (standing[i] != NEVER) {
                    sum += filled[i];
                }
            }
            return sum;
        }

        void setPence(int pence, int clock) {
            penceToCome = pence;
            for (int i = 0; i < size; i++) {
                if (monthOf(i) > clock && filled[i] == 0) {
                    owed[i] = pence;
                }
            }
        }

        void fill(int pence) {
            int left = pence;
            for (int i = 0; i < size && left > 0; i++) {
                if (standing[i] == THERE) {
                    int part = Math.min(left, owed[i] - filled[i]);
                    filled[i] += part;
                    left -= part;
                }
            }
            filledInAll += pence - left;
        }

        void lapseIn(int month) {
            lapsed = true;
            if (firstLapse == NONE) {
                firstLapse = month;
            }
            for (int i = 0; i < size; i++) {
                if (standing[i] == THERE && filled[i] < owed[i]) {
                    standing[i] = monthOf(i) <= month ? LOST : NEVER;
                }
            }
        }

        void standAgain(int clock) {
            lapsed = false;
            takenUp = true;
            for (int i = 0; i < size; i++) {
                if (monthOf(i) > clock && standing[i] == NEVER) {
                    standing[i] = THERE;
                }
            }
        }
    }

    /** The PLEDGES by their numbers. */
    private static final class PledgeBook {
        private final Pledge[] all = new Pledge[MOST_PLEDGES];
        private int size;

        int size() {
            return size;
        }

        boolean isFull() {
            return size >= MOST_PLEDGES;
        }

        /** The new one's number. */
        int add(Pledge one) {
            if (size < 0 || size >= MOST_PLEDGES) {
                return FULL;
            }
            all[size] = one;
            size++;
            return size - 1;
        }

        /** The PLEDGE with a number; null when there is none such. */
        Pledge at(int p) {
            return p >= 0 && p < size && p < MOST_PLEDGES ? all[p] : null;
        }

        int lapsedNow() {
            int lapsed = 0;
            for (int p = 0; p < size; p++) {
                Pledge one = at(p);
                if (one != null && one.isLapsed()) {
                    lapsed++;
                }
            }
            return lapsed;
        }

        void lapseAll(int month, int lapseDues) {
            for (int p = 0; p < size; p++) {
                Pledge one = at(p);
                if (one != null && one.overdue(month) >= lapseDues) {
                    one.lapseIn(month);
                }
            }
        }

        int sureWithin(int months, int clock) {
            long toCome = 0;
            long due = 0;
            long filled = 0;
            for (int p = 0; p < size; p++) {
                Pledge one = at(p);
                if (one != null) {
                    toCome += one.unfilledWithin(clock + 1, clock + months);
                    due += one.dueSoFar(clock);
                    filled += one.filledSoFar(clock);
                }
            }
            return due > 0 ? (int) (toCome * filled / due) : 0;
        }
    }

    /** A STAGE of the tower. */
    private static final class Stage {
        private static final int NOT_BEGUN = 0;
        private static final int RUNS = 1;
        private static final int BUILT = 2;

        private final int cost;
        private final int parts;
        private int progress = NOT_BEGUN;
        private int partsPaid;
        private int paid;
        private int paused;

        Stage(int cost, int parts) {
            this.cost = cost;
            this.parts = parts;
        }

        int cost() {
            return cost;
        }

        int parts() {
            return parts;
        }

        int progress() {
            return progress;
        }

        int paid() {
            return paid;
        }

        int paused() {
            return paused;
        }

        boolean runs() {
            return progress == RUNS;
        }

        void start() {
            progress = RUNS;
        }

        int nextPart() {
            if (partsPaid >= parts - 1 || parts < 1) {
                return cost - paid;
            }
            return cost / parts;
        }

        void bookPart(int part) {
            paid += part;
            partsPaid++;
            if (partsPaid >= parts) {
                progress = BUILT;
            }
        }

        void bookPause() {
            paused++;
        }
    }

    /** The STAGES in their order. */
    private static final class Tower {
        private final Stage[] all = new Stage[MOST_STAGES];
        private int size;
        private int started;

        int size() {
            return size;
        }

        boolean isFull() {
            return size >= MOST_STAGES;
        }

        /** The new one's number. */
        int add(Stage one) {
            if (size < 0 || size >= MOST_STAGES) {
                return FULL;
            }
            all[size] = one;
            size++;
            return size - 1;
        }

        /** The STAGE with a number; null when there is none such. */
        Stage at(int s) {
            return s >= 0 && s < size && s < MOST_STAGES ? all[s] : null;
        }

        private Stage running() {
            Stage latest = at(started - 1);
            return latest != null && latest.runs() ? latest : null;
        }

        boolean mayStartNext() {
            return running() == null && started < size;
        }

        /** The number of the STAGE that was begun. */
        int startNext() {
            Stage next = at(started);
            if (next == null) {
                return STATE;
            }
            next.start();
            started++;
            return started - 1;
        }

        void payPart(Purse purse, int mostLoan) {
            Stage one = running();
            if (one == null) {
                return;
            }
            int part = one.nextPart();
            if (purse.paysPart(part, mostLoan)) {
                one.bookPart(part);
            } else {
                one.bookPause();
            }
        }
    }
}
