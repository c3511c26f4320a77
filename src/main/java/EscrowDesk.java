/** The escrow account of a buyer and a seller; the document's promises are the contract of every method. */
public final class EscrowDesk {
    public static final int NONE = -1;
    public static final int FULL = -2;
    public static final int BAD_TEXT = -3;

    private static final int MOST_BYTES = 700;
    private static final int BYTES_OF_A_FEED = 20;
    private static final int MOST_AMOUNT = 99999;
    private static final int MOST_DEPOSITED = 9999999;
    private static final int MOST_RATE = 3000;
    private static final int MOST_GRACE = 60;
    private static final int SHORT_YEAR = 360;
    private static final int LONG_YEAR = 365;
    private static final int LAST_DAY = 9999;
    private static final int MOST_DAYS = 120;
    private static final int CLOCK_DAYS = 400;
    private static final int WHOLE_SHARE = 1000;
    private static final int MOST_MILESTONES = 10;

    private final char[] buffer = new char[MOST_BYTES];
    private int buffered;
    private Plan plan = new Plan();
    private Plan sparePlan = new Plan();
    private final Reader reader = new Reader(sparePlan);
    private final Account account = new Account(plan);
    private final Account trial = new Account(plan);
    private final History history = new History(plan);
    private final StringBuilder output = new StringBuilder();

    public EscrowDesk() {
        account.openWith(plan);
    }

    // ---- text

    public int feed(int a, int b, int c, int d, int e) {
        if (buffered + BYTES_OF_A_FEED > MOST_BYTES) {
            return FULL;
        }
        appendBytes(a);
        appendBytes(b);
        appendBytes(c);
        appendBytes(d);
        appendBytes(e);
        return buffered;
    }

    private void appendBytes(int four) {
        for (int shift = 24; shift >= 0; shift -= 8) {
            if (buffered < buffer.length) {
                buffer[buffered] = (char) ((four >>> shift) & 255);
                buffered++;
            }
        }
    }

    public int load(int length) throws IllegalArgumentException {
        needRange(length, 0, buffered);
        boolean legal = reader.readText(buffer, length, sparePlan);
        buffered = 0;
        if (!legal) {
            return BAD_TEXT;
        }
        Plan read = sparePlan;
        sparePlan = plan;
        plan = read;
        account.openWith(plan);
        history.forgetAll();
        return plan.milestoneCount;
    }

    public int errorKind() {
        return reader.errorKind;
    }

    public int errorPosition() {
        return reader.errorPosition;
    }

    // ---- account

    public int day() {
        return account.day;
    }

    public int deposited() {
        return account.deposited;
    }

    public int principal() {
        return account.principal;
    }

    public int available() {
        return account.availableMoney();
    }

    public int interestPot() {
        return (int) account.interestPot;
    }

    public int credited() {
        return (int) account.credited;
    }

    public long accruedParts() {
        return account.accruedParts;
    }

    public int received() {
        return account.received;
    }

    public int fees() {
        return account.fees;
    }

    public int refunded() {
        return account.refunded;
    }

    // ---- milestones

    public int milestones() {
        return plan.milestoneCount;
    }

    public int state(int milestone) throws IndexOutOfBoundsException {
        needMilestone(milestone);
        return account.state[milestone];
    }

    public int paid(int milestone) throws IndexOutOfBoundsException {
        needMilestone(milestone);
        return account.paid[milestone];
    }

    public int remaining(int milestone) throws IndexOutOfBoundsException {
        needMilestone(milestone);
        return account.remainingOf(milestone);
    }

    public int frozen(int milestone) throws IndexOutOfBoundsException {
        needMilestone(milestone);
        return account.frozen[milestone];
    }

    public int dueDay(int milestone) throws IndexOutOfBoundsException {
        needMilestone(milestone);
        return account.dueDay[milestone];
    }

    public boolean holds(int milestone) throws IndexOutOfBoundsException {
        needMilestone(milestone);
        return account.holdsOn(milestone, account.day);
    }

    public int dayByClock(int milestone) throws IndexOutOfBoundsException {
        needMilestone(milestone);
        int last = account.day + CLOCK_DAYS;
        int candidate = account.day;
        for (int tried = 0; tried <= CLOCK_DAYS && candidate != NONE && candidate <= last; tried++) {
            if (account.holdsOn(milestone, candidate)) {
                return candidate;
            }
            // The clock alone changes a condition only on the days that the condition names.
            candidate = plan.nextNamedDay(milestone, candidate);
        }
        return NONE;
    }

    public int missingProofs(int milestone) throws IndexOutOfBoundsException {
        needMilestone(milestone);
        int best = NONE;
        int bestSize = Plan.MOST_PROOFS + 1;
        int sets = 1 << plan.proofCount;
        for (int set = 0; set < sets; set++) {
            boolean missing = (set & account.submittedSet) == 0;
            // Only a smaller set displaces the best one: of equal sizes the smaller number came first.
            if (missing && Integer.bitCount(set) < bestSize && account.holdsWithProofs(milestone, set)) {
                best = set;
                bestSize = Integer.bitCount(set);
            }
        }
        return best;
    }

    public int closedCount() {
        int count = 0;
        for (int milestone = 0; milestone < plan.milestoneCount; milestone++) {
            if (account.isClosed(milestone)) {
                count++;
            }
        }
        return count;
    }

    public int progress() {
        long paidSum = 0;
        long amountSum = 0;
        for (int milestone = 0; milestone < plan.milestoneCount; milestone++) {
            paidSum += account.paid[milestone];
            amountSum += plan.amounts[milestone];
        }
        return amountSum > 0 ? (int) (paidSum * 1000 / amountSum) : 0;
    }

    public int graceLeft(int milestone) throws IndexOutOfBoundsException {
        needMilestone(milestone);
        if (account.state[milestone] != State.DUE) {
            return NONE;
        }
        return Math.max(account.payDay(milestone) - account.day, 0);
    }

    public int proofs() {
        return plan.proofCount;
    }

    public boolean isSubmitted(int proof) throws IndexOutOfBoundsException {
        needProof(proof);
        return account.hasProof(proof);
    }

    public char proofCharacter(int proof, int index) throws IndexOutOfBoundsException {
        needProof(proof);
        long name = plan.proofNames[proof];
        needIndex(index, Word.letterCount(name));
        return Word.letterAt(name, index);
    }

    public boolean wouldHold(int milestone, int set) throws IndexOutOfBoundsException, IllegalArgumentException {
        needMilestone(milestone);
        needRange(set, 0, (1 << plan.milestoneCount) - 1);
        return account.holdsWithDone(milestone, set);
    }

    public int dueAt(int rank) throws IndexOutOfBoundsException {
        int milestone = account.dueByRank(rank);
        if (milestone == NONE) {
            throw new IndexOutOfBoundsException("there are not so many due milestones");
        }
        return milestone;
    }

    public int nextDue() {
        return account.dueByRank(0);
    }

    public int shortage() {
        int sum = 0;
        for (int milestone = 0; milestone < plan.milestoneCount; milestone++) {
            sum += account.remainingOf(milestone);
        }
        return Math.max(sum - account.principal, 0);
    }

    // ---- trials, on a copy of the account

    public int paymentsAfter(int days) throws IllegalArgumentException {
        needRange(days, 1, MOST_DAYS);
        tryDays(days);
        return trial.payments();
    }

    public int paidAfter(int milestone, int days) throws IndexOutOfBoundsException, IllegalArgumentException {
        needMilestone(milestone);
        needRange(days, 1, MOST_DAYS);
        tryDays(days);
        return trial.paid[milestone];
    }

    public int creditedAfter(int days) throws IllegalArgumentException {
        needRange(days, 1, MOST_DAYS);
        tryDays(days);
        return (int) trial.credited;
    }

    public int daysUntilClosed(int milestone) throws IndexOutOfBoundsException {
        needMilestone(milestone);
        trial.copyFrom(account);
        for (int days = 0; days <= MOST_DAYS; days++) {
            if (trial.isClosed(milestone)) {
                return days;
            }
            trial.liveDay();
        }
        return NONE;
    }

    public int splitPayment(int milestone, int share)
            throws IndexOutOfBoundsException, IllegalArgumentException, IllegalStateException {
        needMilestone(milestone);
        needRange(share, 0, WHOLE_SHARE);
        needDispute(milestone);
        return Account.partOf(account.moneyToSplit(milestone), share);
    }

    public int shareFor(int milestone, int amount)
            throws IndexOutOfBoundsException, IllegalArgumentException, IllegalStateException {
        needMilestone(milestone);
        needRange(amount, 0, MOST_AMOUNT);
        needDispute(milestone);
        int money = account.moneyToSplit(milestone);
        for (int share = 0; share <= WHOLE_SHARE; share++) {
            int payment = Account.partOf(money, share);
            if (payment - plan.feeOf(payment) >= amount) {
                return share;
            }
        }
        return NONE;
    }

    public int shortDay(int days) throws IllegalArgumentException {
        needRange(days, 1, MOST_DAYS);
        trial.copyFrom(account);
        for (int passed = 0; passed < days; passed++) {
            trial.liveDay();
            if (trial.isShort()) {
                return trial.day;
            }
        }
        return NONE;
    }

    private void tryDays(int days) {
        trial.copyFrom(account);
        trial.liveDays(days);
    }

    // ---- edits: all checks come first, then the account is remembered, then it changes

    public int deposit(int amount) throws IllegalArgumentException, IllegalStateException {
        needRange(amount, 1, MOST_AMOUNT);
        needPossible(account.deposited + amount <= MOST_DEPOSITED);
        history.remember(account);
        account.takeDeposit(amount);
        return account.principal;
    }

    public boolean submit(int proof) throws IndexOutOfBoundsException {
        needProof(proof);
        boolean fresh = !account.hasProof(proof);
        history.remember(account);
        account.submittedSet |= 1 << proof;
        return fresh;
    }

    public boolean approve(int milestone) throws IndexOutOfBoundsException, IllegalStateException {
        needMilestone(milestone);
        needPossible(!account.isClosed(milestone));
        history.remember(account);
        account.approvedSet |= 1 << milestone;
        return account.holdsOn(milestone, account.day);
    }

    public int pay(int milestone, int amount)
            throws IndexOutOfBoundsException, IllegalArgumentException, IllegalStateException {
        needMilestone(milestone);
        needRange(amount, 1, account.remainingOf(milestone));
        needPossible(account.isOpenOrDue(milestone) && amount <= account.availableMoney());
        history.remember(account);
        return account.makePayment(milestone, amount);
    }

    public int dispute(int milestone) throws IndexOutOfBoundsException, IllegalStateException {
        needMilestone(milestone);
        needPossible(account.isOpenOrDue(milestone));
        history.remember(account);
        return account.freeze(milestone);
    }

    public int withdraw(int milestone) throws IndexOutOfBoundsException, IllegalStateException {
        needMilestone(milestone);
        needDispute(milestone);
        history.remember(account);
        account.leaveDispute(milestone, State.OPEN);
        return account.availableMoney();
    }

    public int resolve(int milestone, int share)
            throws IndexOutOfBoundsException, IllegalArgumentException, IllegalStateException {
        needMilestone(milestone);
        needRange(share, 0, WHOLE_SHARE);
        needDispute(milestone);
        history.remember(account);
        return account.settle(milestone, share);
    }

    public int cancel(int milestone) throws IndexOutOfBoundsException, IllegalStateException {
        needMilestone(milestone);
        needPossible(account.isOpenOrDue(milestone));
        history.remember(account);
        int remained = account.remainingOf(milestone);
        account.state[milestone] = State.CANCELLED;
        return remained;
    }

    public int payInterest(int amount) throws IllegalArgumentException {
        if (amount < 1 || amount > account.interestPot) {
            throw new IllegalArgumentException("the interest pot does not hold such an amount");
        }
        history.remember(account);
        account.payOutInterest(amount);
        return (int) account.interestPot;
    }

    public int close() throws IllegalStateException {
        needPossible(closedCount() == plan.milestoneCount);
        history.remember(account);
        int amount = account.principal;
        account.refund(amount, NONE);
        return amount;
    }

    public int setRate(int rate, int basis) throws IllegalArgumentException {
        needRange(rate, 0, MOST_RATE);
        if (!isBasis(basis)) {
            throw new IllegalArgumentException("no such basis");
        }
        history.remember(account);
        int previous = account.rate;
        account.rate = rate;
        account.basis = basis;
        return previous;
    }

    public int setGrace(int days) throws IllegalArgumentException {
        needRange(days, 0, MOST_GRACE);
        history.remember(account);
        int previous = account.grace;
        account.grace = days;
        return previous;
    }

    public int pass(int days) throws IllegalArgumentException, IllegalStateException {
        needRange(days, 1, MOST_DAYS);
        needPossible(account.day + days <= LAST_DAY);
        history.remember(account);
        int before = account.payments();
        account.liveDays(days);
        return account.payments() - before;
    }

    public int undo() {
        return history.restore(account);
    }

    // ---- output

    public int write(int milestone) throws IndexOutOfBoundsException {
        needMilestone(milestone);
        int state = account.state[milestone];
        output.setLength(0);
        Word.appendTo(output, plan.names[milestone]);
        output.append(' ');
        output.append(State.spelling(state));
        output.append(' ');
        output.append(account.paid[milestone]);
        output.append('/');
        output.append(plan.amounts[milestone]);
        if (state == State.DUE) {
            output.append(" since ");
            output.append(account.dueDay[milestone]);
        }
        if (state == State.DISPUTED) {
            output.append(" frozen ");
            output.append(account.frozen[milestone]);
        }
        return output.length();
    }

    public char written(int k) throws IndexOutOfBoundsException {
        needIndex(k, output.length());
        return output.charAt(k);
    }

    // ---- ledger

    public int entries() {
        return account.ledger.kept;
    }

    public int entry(int entry, int what) throws IndexOutOfBoundsException, IllegalArgumentException {
        needIndex(entry, account.ledger.kept);
        needRange(what, 0, Ledger.PARTS - 1);
        return account.ledger.partOfEntry(entry, what);
    }

    public int totalOn(int day, int kind) throws IllegalArgumentException {
        needRange(kind, Ledger.DEPOSIT, Ledger.PAYOUT);
        return account.ledger.sumOn(day, kind);
    }

    public int busiestDay() {
        return account.ledger.dayOfMostPayments();
    }

    // ---- checks

    private void needMilestone(int milestone) {
        needIndex(milestone, plan.milestoneCount);
    }

    private void needProof(int proof) {
        needIndex(proof, plan.proofCount);
    }

    private void needDispute(int milestone) {
        needPossible(account.state[milestone] == State.DISPUTED);
    }

    private static void needIndex(int index, int count) {
        if (index < 0 || index >= count) {
            throw new IndexOutOfBoundsException("there is no such thing");
        }
    }

    private static void needRange(int value, int low, int high) {
        if (value < low || value > high) {
            throw new IllegalArgumentException("out of range");
        }
    }

    private static void needPossible(boolean possible) {
        if (!possible) {
            throw new IllegalStateException("not possible in the present state");
        }
    }

    private static boolean isBasis(long days) {
        return days == SHORT_YEAR || days == LONG_YEAR;
    }

    /** The states of a milestone; those from PAID on are closed. */
    private static final class State {
        static final int OPEN = 0;
        static final int DUE = 1;
        static final int DISPUTED = 2;
        static final int PAID = 3;
        static final int SETTLED = 4;
        static final int CANCELLED = 5;

        static String spelling(int state) {
            switch (state) {
                case OPEN: return "open";
                case DUE: return "due";
                case DISPUTED: return "disputed";
                case PAID: return "paid";
                case SETTLED: return "settled";
                default: return "cancelled";
            }
        }
    }

    /** The kinds of tokens; those from RATE to ALWAYS are the words that no name can be, those from NOT on begin facts. */
    private static final class Token {
        static final int BLANK = 0;
        static final int END = 1;
        static final int ILLEGAL = 2;
        static final int NUMBER = 3;
        static final int NAME = 4;
        static final int OPEN = 5;
        static final int CLOSE = 6;
        static final int SEMICOLON = 7;
        static final int RATE = 8;
        static final int FEE = 9;
        static final int GRACE = 10;
        static final int DEPOSIT = 11;
        static final int MILESTONE = 12;
        static final int WHEN = 13;
        static final int OR = 14;
        static final int AND = 15;
        static final int NOT = 16;
        static final int DAY = 17;
        static final int PROOF = 18;
        static final int DONE = 19;
        static final int SUM = 20;
        static final int APPROVED = 21;
        static final int ALWAYS = 22;

        static boolean beginsFact(int kind) {
            return kind == OPEN || kind >= NOT && kind <= ALWAYS;
        }

        static String spelling(int keyword) {
            switch (keyword) {
                case RATE: return "rate";
                case FEE: return "fee";
                case GRACE: return "grace";
                case DEPOSIT: return "deposit";
                case MILESTONE: return "milestone";
                case WHEN: return "when";
                case OR: return "or";
                case AND: return "and";
                case NOT: return "not";
                case DAY: return "day";
                case PROOF: return "proof";
                case DONE: return "done";
                case SUM: return "sum";
                case APPROVED: return "approved";
                case ALWAYS: return "always";
                default: return "";
            }
        }
    }

    /** A word as a long, five bits a letter: names are kept and compared without making objects. */
    private static final class Word {
        static final int MOST_LETTERS = 9;
        private static final int BITS = 5;
        private static final int MASK = 31;

        static long withLetter(long word, char letter) {
            return word << BITS | (letter - 'a' + 1);
        }

        static long packed(String letters) {
            long word = 0;
            for (int index = 0; index < letters.length(); index++) {
                word = withLetter(word, letters.charAt(index));
            }
            return word;
        }

        static int letterCount(long word) {
            int count = 0;
            while (count < MOST_LETTERS && word >>> (BITS * count) != 0) {
                count++;
            }
            return count;
        }

        static char letterAt(long word, int index) {
            int shift = BITS * (letterCount(word) - 1 - index);
            return (char) ('a' - 1 + (word >>> shift & MASK));
        }

        static void appendTo(StringBuilder text, long word) {
            int count = letterCount(word);
            for (int index = 0; index < count; index++) {
                text.append(letterAt(word, index));
            }
        }
    }

    /** Splits a text into tokens, whatever their order. */
    private static final class Scanner {
        private static final int MOST_DIGITS = 5;

        // One place more than a text has bytes, for the END.
        private final int[] kinds = new int[MOST_BYTES + 1];
        private final int[] starts = new int[MOST_BYTES + 1];
        private final long[] values = new long[MOST_BYTES + 1];
        private int count;

        void split(char[] text, int length) {
            count = 0;
            int run = 0;
            int previous = Token.BLANK;
            for (int at = 0; at < length && at < text.length; at++) {
                int kind = kindOf(text[at]);
                boolean goesOn = kind == previous && (kind == Token.NAME || kind == Token.NUMBER);
                run = goesOn ? run + 1 : 1;
                if (goesOn) {
                    extendLast(kind, text[at], run);
                } else if (kind != Token.BLANK) {
                    add(kind, at, extended(kind, 0, text[at]));
                }
                previous = kind;
            }
            add(Token.END, length, 0);
            markKeywords();
        }

        private static int kindOf(char sign) {
            if (sign >= 'a' && sign <= 'z') {
                return Token.NAME;
            }
            if (sign >= '0' && sign <= '9') {
                return Token.NUMBER;
            }
            if (sign == ' ' || sign == '\n') {
                return Token.BLANK;
            }
            if (sign == '(') {
                return Token.OPEN;
            }
            if (sign == ')') {
                return Token.CLOSE;
            }
            return sign == ';' ? Token.SEMICOLON : Token.ILLEGAL;
        }

        private static long extended(int kind, long value, char sign) {
            if (kind == Token.NAME) {
                return Word.withLetter(value, sign);
            }
            return kind == Token.NUMBER ? value * 10 + (sign - '0') : 0;
        }

        private void add(int kind, int start, long value) {
            if (count < kinds.length) {
                kinds[count] = kind;
                starts[count] = start;
                values[count] = value;
                count++;
            }
        }

        private void extendLast(int kind, char sign, int run) {
            int last = count - 1;
            if (last < 0) {
                return;
            }
            values[last] = extended(kind, values[last], sign);
            if (run > (kind == Token.NAME ? Word.MOST_LETTERS : MOST_DIGITS)) {
                kinds[last] = Token.ILLEGAL;
            }
        }

        private void markKeywords() {
            for (int keyword = Token.RATE; keyword <= Token.ALWAYS; keyword++) {
                long word = Word.packed(Token.spelling(keyword));
                for (int token = 0; token < count; token++) {
                    if (kinds[token] == Token.NAME && values[token] == word) {
                        kinds[token] = keyword;
                    }
                }
            }
        }
    }

    /** Reads a text into a plan, by a method for each part of the grammar; each tells whether its part was legal. */
    private static final class Reader {
        private static final int ILLEGAL_TOKEN = 1;
        private static final int UNEXPECTED = 2;
        private static final int OUT_OF_RANGE = 3;
        private static final int WRONG_NAME = 4;
        private static final int TOO_MANY = 5;
        private static final int MOST_FEE = 2000;
        private static final int MOST_PRIORITY = 99;
        private static final int MOST_NAMED_DAY = 999;
        private static final int MOST_OPEN = 8;

        private final Scanner scanner = new Scanner();
        private Plan plan;
        private int token;
        private int kind;
        private int start;
        private long value;
        private int number;
        private int errorKind = 0;
        private int errorPosition = NONE;

        Reader(Plan plan) {
            this.plan = plan;
        }

        boolean readText(char[] text, int length, Plan target) {
            scanner.split(text, length);
            plan = target;
            plan.clear();
            errorKind = 0;
            errorPosition = NONE;
            lookAt(0);
            boolean legal = true;
            for (int statement = 0; legal && statement < MOST_BYTES && kind != Token.END; statement++) {
                switch (kind) {
                    case Token.RATE: legal = readRate(); break;
                    case Token.FEE: legal = readFee(); break;
                    case Token.GRACE: legal = readGrace(); break;
                    case Token.DEPOSIT: legal = readDeposit(); break;
                    case Token.MILESTONE: legal = readMilestone(); break;
                    default: legal = fail(UNEXPECTED); break;
                }
            }
            return legal;
        }

        private void lookAt(int newToken) {
            if (newToken >= 0 && newToken < scanner.count) {
                token = newToken;
                kind = scanner.kinds[newToken];
                start = scanner.starts[newToken];
                value = scanner.values[newToken];
            }
        }

        /** An illegal token shows itself as a token that was not expected, so its kind of error is put here. */
        private boolean fail(int error) {
            errorKind = kind == Token.ILLEGAL ? ILLEGAL_TOKEN : error;
            errorPosition = start;
            return false;
        }

        private boolean take(int wanted) {
            if (kind != wanted) {
                return fail(UNEXPECTED);
            }
            lookAt(token + 1);
            return true;
        }

        private boolean takeNumber(int low, int high) {
            if (kind != Token.NUMBER) {
                return fail(UNEXPECTED);
            }
            if (value < low || value > high) {
                return fail(OUT_OF_RANGE);
            }
            number = (int) value;
            lookAt(token + 1);
            return true;
        }

        private boolean readRate() {
            lookAt(token + 1);
            if (!takeNumber(0, MOST_RATE)) {
                return false;
            }
            plan.rate = number;
            if (kind == Token.NUMBER && !isBasis(value)) {
                return fail(OUT_OF_RANGE);
            }
            if (!takeNumber(SHORT_YEAR, LONG_YEAR)) {
                return false;
            }
            plan.basis = number;
            return take(Token.SEMICOLON);
        }

        private boolean readFee() {
            lookAt(token + 1);
            if (!takeNumber(0, MOST_FEE)) {
                return false;
            }
            plan.fee = number;
            return take(Token.SEMICOLON);
        }

        private boolean readGrace() {
            lookAt(token + 1);
            if (!takeNumber(0, MOST_GRACE)) {
                return false;
            }
            plan.grace = number;
            return take(Token.SEMICOLON);
        }

        private boolean readDeposit() {
            if (!plan.hasRoomForDeposit()) {
                return fail(TOO_MANY);
            }
            lookAt(token + 1);
            if (!takeNumber(1, MOST_AMOUNT)) {
                return false;
            }
            plan.addDeposit(number);
            return take(Token.SEMICOLON);
        }

        private boolean readMilestone() {
            if (!plan.hasRoomForMilestone()) {
                return fail(TOO_MANY);
            }
            lookAt(token + 1);
            long name = value;
            if (kind == Token.NAME && plan.milestoneNamed(name) != NONE) {
                return fail(WRONG_NAME);
            }
            if (!take(Token.NAME) || !takeNumber(1, MOST_AMOUNT)) {
                return false;
            }
            int amount = number;
            if (!takeNumber(0, MOST_PRIORITY)) {
                return false;
            }
            int priority = number;
            if (!take(Token.WHEN) || !readCondition(0) || !take(Token.SEMICOLON)) {
                return false;
            }
            // Added only here, so that its own condition does not find its name.
            plan.addMilestone(name, amount, priority);
            return true;
        }

        private boolean readCondition(int open) {
            boolean legal = readBoth(open);
            for (int more = 0; legal && more < MOST_BYTES && kind == Token.OR; more++) {
                lookAt(token + 1);
                legal = readBoth(open) && plan.addStep(Token.OR, 0);
            }
            return legal;
        }

        private boolean readBoth(int open) {
            boolean legal = readFact(open);
            for (int more = 0; legal && more < MOST_BYTES && kind == Token.AND; more++) {
                lookAt(token + 1);
                legal = readFact(open) && plan.addStep(Token.AND, 0);
            }
            return legal;
        }

        private boolean readFact(int open) {
            int fact = kind;
            if ((fact == Token.NOT || fact == Token.OPEN) && open >= MOST_OPEN) {
                return fail(TOO_MANY);
            }
            if (!Token.beginsFact(fact)) {
                return fail(UNEXPECTED);
            }
            lookAt(token + 1);
            switch (fact) {
                case Token.OPEN: return readCondition(open + 1) && take(Token.CLOSE);
                case Token.NOT: return readFact(open + 1) && plan.addStep(fact, 0);
                case Token.DAY: return takeNumber(0, MOST_NAMED_DAY) && plan.addStep(fact, number);
                case Token.SUM: return takeNumber(0, MOST_AMOUNT) && plan.addStep(fact, number);
                case Token.PROOF: return readProofName();
                case Token.DONE: return readDoneName();
                default: return plan.addStep(fact, 0);
            }
        }

        private boolean readProofName() {
            if (kind != Token.NAME) {
                return fail(UNEXPECTED);
            }
            int proof = plan.proofNamed(value);
            if (proof == NONE) {
                return fail(TOO_MANY);
            }
            lookAt(token + 1);
            return plan.addStep(Token.PROOF, proof);
        }

        private boolean readDoneName() {
            if (kind != Token.NAME) {
                return fail(UNEXPECTED);
            }
            int milestone = plan.milestoneNamed(value);
            if (milestone == NONE) {
                return fail(WRONG_NAME);
            }
            lookAt(token + 1);
            return plan.addStep(Token.DONE, milestone);
        }
    }

    /** What a text defines and no edit changes, and what the account starts with. */
    private static final class Plan {
        static final int MOST_PROOFS = 8;
        private static final int MOST_DEPOSITS = 6;
        // Each step comes from a word of its own, of two letters or more.
        private static final int MOST_STEPS = MOST_BYTES / 2;

        private int rate;
        private int basis = LONG_YEAR;
        private int fee;
        private int grace;
        private final int[] deposits = new int[MOST_DEPOSITS];
        private int depositCount;
        private final long[] names = new long[MOST_MILESTONES];
        private final int[] amounts = new int[MOST_MILESTONES];
        private final int[] priorities = new int[MOST_MILESTONES];
        private final int[] byPriority = new int[MOST_MILESTONES];
        private int milestoneCount;
        private final long[] proofNames = new long[MOST_PROOFS];
        private int proofCount;
        // The conditions one behind another, each with its facts before what joins them,
        // so that they are judged in one pass; that of milestone k ends where stepEnds[k] says.
        private final int[] steps = new int[MOST_STEPS];
        private final int[] operands = new int[MOST_STEPS];
        private final int[] stepEnds = new int[MOST_MILESTONES];
        private int stepCount;

        void clear() {
            rate = 0;
            basis = LONG_YEAR;
            fee = 0;
            grace = 0;
            depositCount = 0;
            milestoneCount = 0;
            proofCount = 0;
            stepCount = 0;
        }

        boolean hasRoomForDeposit() {
            return depositCount < deposits.length;
        }

        void addDeposit(int amount) {
            if (hasRoomForDeposit()) {
                deposits[depositCount] = amount;
                depositCount++;
            }
        }

        boolean hasRoomForMilestone() {
            return milestoneCount < MOST_MILESTONES;
        }

        void addMilestone(long name, int amount, int priority) {
            if (!hasRoomForMilestone()) {
                return;
            }
            int rank = milestoneCount;
            while (rank > 0 && priorities[byPriority[rank - 1]] > priority) {
                byPriority[rank] = byPriority[rank - 1];
                rank--;
            }
            byPriority[rank] = milestoneCount;
            names[milestoneCount] = name;
            amounts[milestoneCount] = amount;
            priorities[milestoneCount] = priority;
            stepEnds[milestoneCount] = stepCount;
            milestoneCount++;
        }

        int milestoneNamed(long name) {
            for (int milestone = 0; milestone < milestoneCount; milestone++) {
                if (names[milestone] == name) {
                    return milestone;
                }
            }
            return NONE;
        }

        /** The number of a proof, a new one if the name is new; NONE if it would be one too many. */
        int proofNamed(long name) {
            for (int proof = 0; proof < proofCount; proof++) {
                if (proofNames[proof] == name) {
                    return proof;
                }
            }
            if (proofCount >= MOST_PROOFS) {
                return NONE;
            }
            proofNames[proofCount] = name;
            proofCount++;
            return proofCount - 1;
        }

        boolean addStep(int kind, int operand) {
            if (stepCount >= MOST_STEPS) {
                return false;
            }
            steps[stepCount] = kind;
            operands[stepCount] = operand;
            stepCount++;
            return true;
        }

        int feeOf(int payment) {
            return payment * fee / 10000;
        }

        private int firstStep(int milestone) {
            return milestone > 0 ? stepEnds[milestone - 1] : 0;
        }

        /** The first day behind a day that the condition names; NONE if it names none. */
        int nextNamedDay(int milestone, int day) {
            int next = NONE;
            for (int step = firstStep(milestone); step < stepEnds[milestone]; step++) {
                int named = operands[step];
                if (steps[step] == Token.DAY && named > day && (next == NONE || named < next)) {
                    next = named;
                }
            }
            return next;
        }

        /** The answers that wait to be joined are the bits of a number: brackets are too few to need more than 32. */
        boolean conditionHolds(int milestone, int day, int proofSet, int doneSet, int payments, boolean approved) {
            int answers = 0;
            for (int step = firstStep(milestone); step < stepEnds[milestone]; step++) {
                int last = answers & 1;
                int operand = operands[step];
                switch (steps[step]) {
                    case Token.NOT: answers ^= 1; break;
                    case Token.AND: answers = answers >>> 1 & (last | ~1); break;
                    case Token.OR: answers = answers >>> 1 | last; break;
                    case Token.DAY: answers = withAnswer(answers, day >= operand); break;
                    case Token.PROOF: answers = withAnswer(answers, contains(proofSet, operand)); break;
                    case Token.DONE: answers = withAnswer(answers, contains(doneSet, operand)); break;
                    case Token.SUM: answers = withAnswer(answers, payments >= operand); break;
                    case Token.APPROVED: answers = withAnswer(answers, approved); break;
                    default: answers = withAnswer(answers, true); break;
                }
            }
            return (answers & 1) == 1;
        }

        private static int withAnswer(int answers, boolean answer) {
            return answers << 1 | (answer ? 1 : 0);
        }

        static boolean contains(int set, int number) {
            return (set >>> number & 1) == 1;
        }
    }

    /** All that edits change; the present account, the trial and the remembered ones are of this class. */
    private static final class Account {
        private static final int CREDIT_DAYS = 30;

        private Plan plan;
        private final Ledger ledger = new Ledger();
        private final int[] state = new int[MOST_MILESTONES];
        private final int[] paid = new int[MOST_MILESTONES];
        private final int[] frozen = new int[MOST_MILESTONES];
        private final int[] dueDay = new int[MOST_MILESTONES];
        private int day;
        private int deposited;
        private int principal;
        // The interest of 9999 days can outgrow an int.
        private long interestPot;
        private long credited;
        private long accruedParts;
        private int received;
        private int fees;
        private int refunded;
        private int rate;
        private int basis;
        private int grace;
        private int submittedSet;
        private int approvedSet;

        Account(Plan plan) {
            this.plan = plan;
        }

        void openWith(Plan newPlan) {
            plan = newPlan;
            ledger.clear();
            for (int milestone = 0; milestone < MOST_MILESTONES; milestone++) {
                state[milestone] = State.OPEN;
                paid[milestone] = 0;
                frozen[milestone] = 0;
                dueDay[milestone] = NONE;
            }
            day = 0;
            deposited = 0;
            principal = 0;
            interestPot = 0;
            credited = 0;
            accruedParts = 0;
            received = 0;
            fees = 0;
            refunded = 0;
            rate = plan.rate;
            basis = plan.basis;
            grace = plan.grace;
            submittedSet = 0;
            approvedSet = 0;
            for (int deposit = 0; deposit < plan.depositCount; deposit++) {
                takeDeposit(plan.deposits[deposit]);
            }
        }

        void copyFrom(Account other) {
            plan = other.plan;
            ledger.copyFrom(other.ledger);
            System.arraycopy(other.state, 0, state, 0, MOST_MILESTONES);
            System.arraycopy(other.paid, 0, paid, 0, MOST_MILESTONES);
            System.arraycopy(other.frozen, 0, frozen, 0, MOST_MILESTONES);
            System.arraycopy(other.dueDay, 0, dueDay, 0, MOST_MILESTONES);
            day = other.day;
            deposited = other.deposited;
            principal = other.principal;
            interestPot = other.interestPot;
            credited = other.credited;
            accruedParts = other.accruedParts;
            received = other.received;
            fees = other.fees;
            refunded = other.refunded;
            rate = other.rate;
            basis = other.basis;
            grace = other.grace;
            submittedSet = other.submittedSet;
            approvedSet = other.approvedSet;
        }

        int payments() {
            return received + fees;
        }

        int availableMoney() {
            int money = principal;
            for (int milestone = 0; milestone < plan.milestoneCount; milestone++) {
                money -= frozen[milestone];
            }
            return money;
        }

        boolean isClosed(int milestone) {
            return state[milestone] >= State.PAID;
        }

        boolean isOpenOrDue(int milestone) {
            return state[milestone] == State.OPEN || state[milestone] == State.DUE;
        }

        int remainingOf(int milestone) {
            return isClosed(milestone) ? 0 : plan.amounts[milestone] - paid[milestone];
        }

        /** The first day on which a due milestone is paid. */
        int payDay(int milestone) {
            return dueDay[milestone] + grace;
        }

        boolean hasProof(int proof) {
            return Plan.contains(submittedSet, proof);
        }

        boolean holdsOn(int milestone, int onDay) {
            return judged(milestone, onDay, submittedSet, doneSet());
        }

        boolean holdsWithProofs(int milestone, int moreProofs) {
            return judged(milestone, day, submittedSet | moreProofs, doneSet());
        }

        boolean holdsWithDone(int milestone, int moreDone) {
            return judged(milestone, day, submittedSet, doneSet() | moreDone);
        }

        private boolean judged(int milestone, int onDay, int proofSet, int doneSet) {
            boolean approved = Plan.contains(approvedSet, milestone);
            return plan.conditionHolds(milestone, onDay, proofSet, doneSet, payments(), approved);
        }

        private int doneSet() {
            int set = 0;
            for (int milestone = 0; milestone < plan.milestoneCount; milestone++) {
                if (state[milestone] == State.PAID || state[milestone] == State.SETTLED) {
                    set |= 1 << milestone;
                }
            }
            return set;
        }

        int dueByRank(int rank) {
            int before = 0;
            for (int place = 0; place < plan.milestoneCount; place++) {
                int milestone = plan.byPriority[place];
                if (state[milestone] == State.DUE) {
                    if (before == rank) {
                        return milestone;
                    }
                    before++;
                }
            }
            return NONE;
        }

        boolean isShort() {
            for (int milestone = 0; milestone < plan.milestoneCount; milestone++) {
                if (mustBePaid(milestone) && remainingOf(milestone) > 0) {
                    return true;
                }
            }
            return false;
        }

        private boolean mustBePaid(int milestone) {
            return state[milestone] == State.DUE && payDay(milestone) <= day;
        }

        void takeDeposit(int amount) {
            deposited += amount;
            principal += amount;
            ledger.enter(Ledger.DEPOSIT, day, amount, NONE);
        }

        /** Makes a payment and returns its fee. */
        int makePayment(int milestone, int amount) {
            int fee = plan.feeOf(amount);
            principal -= amount;
            paid[milestone] += amount;
            fees += fee;
            received += amount - fee;
            ledger.enter(Ledger.PAYMENT, day, amount, milestone);
            // A milestone that is being settled is closed already and stays settled.
            if (!isClosed(milestone) && remainingOf(milestone) == 0) {
                state[milestone] = State.PAID;
            }
            return fee;
        }

        void refund(int amount, int milestone) {
            principal -= amount;
            refunded += amount;
            ledger.enter(Ledger.REFUND, day, amount, milestone);
        }

        void payOutInterest(int amount) {
            interestPot -= amount;
            ledger.enter(Ledger.PAYOUT, day, amount, NONE);
        }

        /** Starts a dispute and returns the amount that it freezes. */
        int freeze(int milestone) {
            int amount = Math.min(remainingOf(milestone), availableMoney());
            state[milestone] = State.DISPUTED;
            frozen[milestone] = amount;
            return amount;
        }

        void leaveDispute(int milestone, int newState) {
            state[milestone] = newState;
            frozen[milestone] = 0;
        }

        int moneyToSplit(int milestone) {
            return Math.min(remainingOf(milestone), availableMoney() + frozen[milestone]);
        }

        static int partOf(int money, int share) {
            return money * share / WHOLE_SHARE;
        }

        /** Ends a dispute by a split and returns the payment. */
        int settle(int milestone, int share) {
            int money = moneyToSplit(milestone);
            int payment = partOf(money, share);
            leaveDispute(milestone, State.SETTLED);
            makePayment(milestone, payment);
            refund(money - payment, milestone);
            return payment;
        }

        void liveDays(int days) {
            for (int passed = 0; passed < days; passed++) {
                liveDay();
            }
        }

        void liveDay() {
            accruedParts += (principal + interestPot) * rate;
            day++;
            if (day % CREDIT_DAYS == 0) {
                creditInterest();
            }
            makeDue();
            payDue();
        }

        private void creditInterest() {
            long partsOfAUnit = 10000L * basis;
            if (partsOfAUnit <= 0) {
                return;
            }
            long credit = accruedParts / partsOfAUnit;
            accruedParts -= credit * partsOfAUnit;
            interestPot += credit;
            credited += credit;
            ledger.enter(Ledger.CREDIT, day, (int) credit, NONE);
        }

        private void makeDue() {
            int done = doneSet();
            for (int milestone = 0; milestone < plan.milestoneCount; milestone++) {
                if (state[milestone] == State.OPEN && judged(milestone, day, submittedSet, done)) {
                    state[milestone] = State.DUE;
                    dueDay[milestone] = day;
                }
            }
        }

        private void payDue() {
            for (int place = 0; place < plan.milestoneCount; place++) {
                int milestone = plan.byPriority[place];
                int amount = Math.min(remainingOf(milestone), availableMoney());
                if (mustBePaid(milestone) && amount > 0) {
                    makePayment(milestone, amount);
                }
            }
        }
    }

    /** The latest entries, in a ring of four numbers an entry. */
    private static final class Ledger {
        static final int DEPOSIT = 0;
        static final int PAYMENT = 1;
        static final int REFUND = 2;
        static final int CREDIT = 3;
        static final int PAYOUT = 4;
        static final int PARTS = 4;
        private static final int KIND = 0;
        private static final int DAY = 1;
        private static final int AMOUNT = 2;
        private static final int MILESTONE = 3;
        private static final int MOST_KEPT = 60;

        private final int[] ring = new int[MOST_KEPT * PARTS];
        private int next;
        private int kept;

        void clear() {
            next = 0;
            kept = 0;
        }

        void copyFrom(Ledger other) {
            System.arraycopy(other.ring, 0, ring, 0, ring.length);
            next = other.next;
            kept = other.kept;
        }

        void enter(int kind, int day, int amount, int milestone) {
            if (amount <= 0) {
                return;
            }
            int at = next * PARTS;
            ring[at + KIND] = kind;
            ring[at + DAY] = day;
            ring[at + AMOUNT] = amount;
            ring[at + MILESTONE] = milestone;
            // Places, not a count of all entries: however many are entered, none is ever outside the ring.
            next = (next + 1) % MOST_KEPT;
            kept = Math.min(kept + 1, MOST_KEPT);
        }

        int partOfEntry(int entry, int what) {
            int place = (next + MOST_KEPT - kept + entry) % MOST_KEPT;
            return ring[place * PARTS + what];
        }

        int sumOn(int day, int kind) {
            int sum = 0;
            for (int entry = 0; entry < kept; entry++) {
                if (partOfEntry(entry, DAY) == day && partOfEntry(entry, KIND) == kind) {
                    sum += partOfEntry(entry, AMOUNT);
                }
            }
            return sum;
        }

        int dayOfMostPayments() {
            int busiest = NONE;
            int most = 0;
            int sumDay = NONE;
            int sum = 0;
            for (int entry = 0; entry < kept; entry++) {
                if (partOfEntry(entry, KIND) == PAYMENT) {
                    int day = partOfEntry(entry, DAY);
                    // Entries stand in the order of their days, so the payments of a day are met together.
                    sum = (day == sumDay ? sum : 0) + partOfEntry(entry, AMOUNT);
                    sumDay = day;
                    if (sum > most) {
                        busiest = day;
                        most = sum;
                    }
                }
            }
            return busiest;
        }
    }

    /** The accounts as they were before the latest edits, in a ring. */
    private static final class History {
        private static final int MOST_EDITS = 10;

        private final Account[] remembered = new Account[MOST_EDITS];
        private int next;
        private int count;

        History(Plan plan) {
            for (int edit = 0; edit < MOST_EDITS; edit++) {
                remembered[edit] = new Account(plan);
            }
        }

        void remember(Account account) {
            remembered[next].copyFrom(account);
            next = (next + 1) % MOST_EDITS;
            count = Math.min(count + 1, MOST_EDITS);
        }

        /** Undoes the latest edit and returns how many can be undone then; NONE if there was none. */
        int restore(Account account) {
            if (count == 0) {
                return NONE;
            }
            next = (next + MOST_EDITS - 1) % MOST_EDITS;
            count--;
            account.copyFrom(remembered[next]);
            return count;
        }

        void forgetAll() {
            count = 0;
        }
    }
}
