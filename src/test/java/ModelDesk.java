import java.util.ArrayDeque;
import java.util.ArrayList;
import java.util.Arrays;
import java.util.Comparator;
import java.util.Deque;
import java.util.HashSet;
import java.util.List;
import java.util.Map;
import java.util.Set;
import java.util.TreeMap;
import java.util.stream.Collectors;
import java.util.stream.IntStream;

/**
 * The document once more, written another way (trees, sets, lists, copies of everything), so that runs of calls can be
 * put to both. It bears the same methods as EscrowDesk and none of its code.
 */
final class ModelDesk {
    static final Set<String> QUOTED = new HashSet<>(Arrays.asList("rate", "fee", "grace", "deposit", "milestone", "when",
        "or", "and", "not", "day", "proof", "done", "sum", "approved", "always"));

    /** What a condition is asked about. */
    record Facts(int day, Set<Integer> proofs, Set<Integer> done, int payments, boolean approved) {
    }

    interface Condition {
        boolean in(Facts facts);
    }

    record Stone(String name, int amount, int priority, Condition condition) {
    }

    record Entry(int kind, int day, int amount, int stone) {
    }

    static final class Text {
        int rate = 0;
        int basis = 365;
        int fee = 0;
        int grace = 0;
        List<Integer> deposits = new ArrayList<>();
        List<Stone> stones = new ArrayList<>();
        List<String> proofs = new ArrayList<>();
    }

    static final class Wrong extends Exception {
        final int kind;
        final int position;

        Wrong(int kind, int position) {
            this.kind = kind;
            this.position = position;
        }
    }

    record Piece(String text, int position) {
        boolean isWord() {
            return text.matches("[a-z]{1,9}");
        }

        boolean isNumber() {
            return text.matches("[0-9]{1,5}");
        }

        boolean isLegal() {
            return isWord() || isNumber() || text.equals("(") || text.equals(")") || text.equals(";");
        }
    }

    static final class Parser {
        final List<Piece> pieces = new ArrayList<>();
        final Text result = new Text();
        int at = 0;

        Parser(String text) {
            java.util.regex.Matcher matcher =
                java.util.regex.Pattern.compile("[a-z]+|[0-9]+|[^ \n]", java.util.regex.Pattern.DOTALL).matcher(text);
            while (matcher.find()) {
                pieces.add(new Piece(matcher.group(), matcher.start()));
            }
            pieces.add(new Piece("", text.length()));
        }

        Piece peek() throws Wrong {
            Piece piece = pieces.get(at);
            if (!piece.text.isEmpty() && !piece.isLegal()) {
                throw new Wrong(1, piece.position);
            }
            return piece;
        }

        boolean next(String text) throws Wrong {
            return peek().text.equals(text);
        }

        Piece need(String text) throws Wrong {
            if (!next(text)) {
                throw new Wrong(2, peek().position);
            }
            return pieces.get(at++);
        }

        int needNumber(int low, int high) throws Wrong {
            Piece piece = peek();
            if (!piece.isNumber()) {
                throw new Wrong(2, piece.position);
            }
            int number = Integer.parseInt(piece.text);
            if (number < low || number > high) {
                throw new Wrong(3, piece.position);
            }
            at++;
            return number;
        }

        String needName() throws Wrong {
            Piece piece = peek();
            if (!piece.isWord() || QUOTED.contains(piece.text)) {
                throw new Wrong(2, piece.position);
            }
            at++;
            return piece.text;
        }

        int stone(String name) {
            for (int number = 0; number < result.stones.size(); number++) {
                if (result.stones.get(number).name.equals(name)) {
                    return number;
                }
            }
            return -1;
        }

        Text read() throws Wrong {
            while (!next("")) {
                Piece first = peek();
                at++;
                switch (first.text) {
                    case "rate" -> {
                        result.rate = needNumber(0, 3000);
                        int where = peek().position;
                        result.basis = needNumber(0, 99999);
                        if (result.basis != 360 && result.basis != 365) {
                            throw new Wrong(3, where);
                        }
                    }
                    case "fee" -> result.fee = needNumber(0, 2000);
                    case "grace" -> result.grace = needNumber(0, 60);
                    case "deposit" -> {
                        if (result.deposits.size() == 6) {
                            throw new Wrong(5, first.position);
                        }
                        result.deposits.add(needNumber(1, 99999));
                    }
                    case "milestone" -> {
                        if (result.stones.size() == 10) {
                            throw new Wrong(5, first.position);
                        }
                        int where = peek().position;
                        String name = needName();
                        if (stone(name) >= 0) {
                            throw new Wrong(4, where);
                        }
                        int amount = needNumber(1, 99999);
                        int priority = needNumber(0, 99);
                        need("when");
                        Condition condition = condition(0);
                        if (!next(";")) {
                            throw new Wrong(2, peek().position);
                        }
                        result.stones.add(new Stone(name, amount, priority, condition));
                    }
                    default -> throw new Wrong(2, first.position);
                }
                need(";");
            }
            return result;
        }

        Condition condition(int open) throws Wrong {
            List<Condition> any = new ArrayList<>();
            any.add(both(open));
            while (next("or")) {
                at++;
                any.add(both(open));
            }
            return facts -> any.stream().anyMatch(one -> one.in(facts));
        }

        Condition both(int open) throws Wrong {
            List<Condition> all = new ArrayList<>();
            all.add(fact(open));
            while (next("and")) {
                at++;
                all.add(fact(open));
            }
            return facts -> all.stream().allMatch(one -> one.in(facts));
        }

        Condition fact(int open) throws Wrong {
            Piece first = peek();
            at++;
            switch (first.text) {
                case "not": {
                    deeper(open, first);
                    Condition inner = fact(open + 1);
                    return facts -> !inner.in(facts);
                }
                case "(": {
                    deeper(open, first);
                    Condition inner = condition(open + 1);
                    need(")");
                    return inner;
                }
                case "day": {
                    int day = needNumber(0, 999);
                    return facts -> facts.day >= day;
                }
                case "proof": {
                    int where = peek().position;
                    String name = needName();
                    if (!result.proofs.contains(name)) {
                        if (result.proofs.size() == 8) {
                            throw new Wrong(5, where);
                        }
                        result.proofs.add(name);
                    }
                    int proof = result.proofs.indexOf(name);
                    return facts -> facts.proofs.contains(proof);
                }
                case "done": {
                    int where = peek().position;
                    int stone = stone(needName());
                    if (stone < 0) {
                        throw new Wrong(4, where);
                    }
                    return facts -> facts.done.contains(stone);
                }
                case "sum": {
                    int sum = needNumber(0, 99999);
                    return facts -> facts.payments >= sum;
                }
                case "approved":
                    return facts -> facts.approved;
                case "always":
                    return facts -> true;
                default:
                    throw new Wrong(2, first.position);
            }
        }

        void deeper(int open, Piece piece) throws Wrong {
            if (open == 8) {
                throw new Wrong(5, piece.position);
            }
        }
    }

    /** The account, all of it copied for each edit and each trial. */
    static final class Money {
        Text text;
        int day;
        int deposited;
        int principal;
        long pot;
        long credited;
        long parts;
        int received;
        int fees;
        int refunded;
        int rate;
        int basis;
        int grace;
        Set<Integer> submitted = new HashSet<>();
        Set<Integer> approved = new HashSet<>();
        List<Entry> entries = new ArrayList<>();
        int[] state;
        int[] paid;
        int[] frozen;
        int[] dueDay;

        Money(Text text) {
            this.text = text;
            rate = text.rate;
            basis = text.basis;
            grace = text.grace;
            int count = text.stones.size();
            state = new int[count];
            paid = new int[count];
            frozen = new int[count];
            dueDay = new int[count];
            Arrays.fill(dueDay, -1);
            text.deposits.forEach(this::put);
        }

        Money(Money old) {
            text = old.text;
            day = old.day;
            deposited = old.deposited;
            principal = old.principal;
            pot = old.pot;
            credited = old.credited;
            parts = old.parts;
            received = old.received;
            fees = old.fees;
            refunded = old.refunded;
            rate = old.rate;
            basis = old.basis;
            grace = old.grace;
            submitted = new HashSet<>(old.submitted);
            approved = new HashSet<>(old.approved);
            entries = new ArrayList<>(old.entries);
            state = old.state.clone();
            paid = old.paid.clone();
            frozen = old.frozen.clone();
            dueDay = old.dueDay.clone();
        }

        void note(int kind, int amount, int stone) {
            if (amount > 0) {
                entries.add(new Entry(kind, day, amount, stone));
            }
            if (entries.size() > 60) {
                entries.remove(0);
            }
        }

        void put(int amount) {
            deposited += amount;
            principal += amount;
            note(0, amount, -1);
        }

        IntStream stones() {
            return IntStream.range(0, state.length);
        }

        int available() {
            return principal - Arrays.stream(frozen).sum();
        }

        boolean closed(int stone) {
            return state[stone] == 3 || state[stone] == 4 || state[stone] == 5;
        }

        int remaining(int stone) {
            return closed(stone) ? 0 : text.stones.get(stone).amount - paid[stone];
        }

        Set<Integer> done() {
            return stones().filter(stone -> state[stone] == 3 || state[stone] == 4).boxed().collect(Collectors.toSet());
        }

        boolean holds(int stone, int onDay, Set<Integer> proofs, Set<Integer> done) {
            return text.stones.get(stone).condition
                .in(new Facts(onDay, proofs, done, received + fees, approved.contains(stone)));
        }

        int fee(int amount) {
            return (int) Math.floorDiv((long) amount * text.fee, 10000L);
        }

        int payment(int stone, int amount, boolean settling) {
            int fee = fee(amount);
            principal -= amount;
            paid[stone] += amount;
            fees += fee;
            received += amount - fee;
            note(1, amount, stone);
            if (settling) {
                state[stone] = 4;
            } else if (paid[stone] == text.stones.get(stone).amount) {
                state[stone] = 3;
            }
            return fee;
        }

        List<Integer> due() {
            return stones().filter(stone -> state[stone] == 1).boxed()
                .sorted(Comparator.comparingInt((Integer stone) -> text.stones.get(stone).priority)
                    .thenComparingInt(stone -> stone))
                .collect(Collectors.toList());
        }

        void pass() {
            parts += (principal + pot) * rate;
            day++;
            if (day % 30 == 0) {
                long unit = 10000L * basis;
                long credit = parts / unit;
                parts = parts % unit;
                pot += credit;
                credited += credit;
                note(3, (int) credit, -1);
            }
            stones().filter(stone -> state[stone] == 0 && holds(stone, day, submitted, done())).forEach(stone -> {
                state[stone] = 1;
                dueDay[stone] = day;
            });
            for (int stone : due()) {
                int amount = Math.min(remaining(stone), available());
                if (day >= dueDay[stone] + grace && amount > 0) {
                    payment(stone, amount, false);
                }
            }
        }

        boolean isShort() {
            return due().stream().anyMatch(stone -> dueDay[stone] + grace <= day && remaining(stone) > 0);
        }

        int toSplit(int stone) {
            return Math.min(remaining(stone), available() + frozen[stone]);
        }
    }

    private final StringBuilder buffer = new StringBuilder();
    private Money now = new Money(new Text());
    private final Deque<Money> edits = new ArrayDeque<>();
    private int errorKind = 0;
    private int errorPosition = -1;
    private String output = "";

    private void stone(int stone) {
        index(stone, now.state.length);
    }

    private static void index(int index, int count) {
        if (index < 0 || index >= count) {
            throw new IndexOutOfBoundsException();
        }
    }

    private static void range(int value, long low, long high) {
        if (value < low || value > high) {
            throw new IllegalArgumentException();
        }
    }

    private static void possible(boolean possible) {
        if (!possible) {
            throw new IllegalStateException();
        }
    }

    private void edit() {
        edits.addLast(new Money(now));
        if (edits.size() > 10) {
            edits.removeFirst();
        }
    }

    private Money after(int days) {
        Money later = new Money(now);
        for (int passed = 0; passed < days; passed++) {
            later.pass();
        }
        return later;
    }

    private static Set<Integer> elements(int set) {
        return IntStream.range(0, 31).filter(element -> (set & 1 << element) != 0).boxed().collect(Collectors.toSet());
    }

    private static Set<Integer> union(Set<Integer> one, Set<Integer> other) {
        Set<Integer> both = new HashSet<>(one);
        both.addAll(other);
        return both;
    }

    public int feed(int a, int b, int c, int d, int e) {
        if (buffer.length() == 700) {
            return -2;
        }
        for (int four : new int[] {a, b, c, d, e}) {
            for (byte part : java.nio.ByteBuffer.allocate(4).putInt(four).array()) {
                buffer.append((char) Byte.toUnsignedInt(part));
            }
        }
        return buffer.length();
    }

    public int load(int length) {
        range(length, 0, buffer.length());
        String text = buffer.substring(0, length);
        buffer.setLength(0);
        try {
            now = new Money(new Parser(text).read());
        } catch (Wrong wrong) {
            errorKind = wrong.kind;
            errorPosition = wrong.position;
            return -3;
        }
        errorKind = 0;
        errorPosition = -1;
        edits.clear();
        return now.state.length;
    }

    public int errorKind() {
        return errorKind;
    }

    public int errorPosition() {
        return errorPosition;
    }

    public int day() {
        return now.day;
    }

    public int deposited() {
        return now.deposited;
    }

    public int principal() {
        return now.principal;
    }

    public int available() {
        return now.available();
    }

    public int interestPot() {
        return (int) now.pot;
    }

    public int credited() {
        return (int) now.credited;
    }

    public long accruedParts() {
        return now.parts;
    }

    public int received() {
        return now.received;
    }

    public int fees() {
        return now.fees;
    }

    public int refunded() {
        return now.refunded;
    }

    public int milestones() {
        return now.state.length;
    }

    public int state(int milestone) {
        stone(milestone);
        return now.state[milestone];
    }

    public int paid(int milestone) {
        stone(milestone);
        return now.paid[milestone];
    }

    public int remaining(int milestone) {
        stone(milestone);
        return now.remaining(milestone);
    }

    public int frozen(int milestone) {
        stone(milestone);
        return now.frozen[milestone];
    }

    public int dueDay(int milestone) {
        stone(milestone);
        return now.dueDay[milestone];
    }

    public boolean holds(int milestone) {
        stone(milestone);
        return now.holds(milestone, now.day, now.submitted, now.done());
    }

    public int dayByClock(int milestone) {
        stone(milestone);
        return IntStream.rangeClosed(now.day, now.day + 400)
            .filter(day -> now.holds(milestone, day, now.submitted, now.done())).findFirst().orElse(-1);
    }

    public int missingProofs(int milestone) {
        stone(milestone);
        return IntStream.range(0, 1 << now.text.proofs.size()).boxed()
            .filter(set -> elements(set).stream().noneMatch(now.submitted::contains))
            .filter(set -> now.holds(milestone, now.day, union(now.submitted, elements(set)), now.done()))
            .min(Comparator.comparingInt((Integer set) -> elements(set).size()).thenComparingInt(set -> set)).orElse(-1);
    }

    public int closedCount() {
        return (int) now.stones().filter(now::closed).count();
    }

    public int progress() {
        int sum = now.text.stones.stream().mapToInt(Stone::amount).sum();
        return sum == 0 ? 0 : (int) (Arrays.stream(now.paid).asLongStream().sum() * 1000 / sum);
    }

    public int graceLeft(int milestone) {
        stone(milestone);
        return now.state[milestone] != 1 ? -1 : Math.max(0, now.dueDay[milestone] + now.grace - now.day);
    }

    public int proofs() {
        return now.text.proofs.size();
    }

    public boolean isSubmitted(int proof) {
        index(proof, proofs());
        return now.submitted.contains(proof);
    }

    public char proofCharacter(int proof, int index) {
        index(proof, proofs());
        index(index, now.text.proofs.get(proof).length());
        return now.text.proofs.get(proof).charAt(index);
    }

    public boolean wouldHold(int milestone, int set) {
        stone(milestone);
        range(set, 0, (1 << milestones()) - 1);
        return now.holds(milestone, now.day, now.submitted, union(now.done(), elements(set)));
    }

    public int dueAt(int rank) {
        index(rank, now.due().size());
        return now.due().get(rank);
    }

    public int nextDue() {
        return now.due().stream().findFirst().orElse(-1);
    }

    public int shortage() {
        return Math.max(0, now.stones().map(now::remaining).sum() - now.principal);
    }

    public int paymentsAfter(int days) {
        range(days, 1, 120);
        Money later = after(days);
        return later.received + later.fees;
    }

    public int paidAfter(int milestone, int days) {
        stone(milestone);
        range(days, 1, 120);
        return after(days).paid[milestone];
    }

    public int creditedAfter(int days) {
        range(days, 1, 120);
        return (int) after(days).credited;
    }

    public int daysUntilClosed(int milestone) {
        stone(milestone);
        Money later = new Money(now);
        int days = 0;
        while (!later.closed(milestone) && days <= 120) {
            later.pass();
            days++;
        }
        return days > 120 ? -1 : days;
    }

    public int splitPayment(int milestone, int share) {
        stone(milestone);
        range(share, 0, 1000);
        possible(now.state[milestone] == 2);
        return now.toSplit(milestone) * share / 1000;
    }

    public int shareFor(int milestone, int amount) {
        stone(milestone);
        range(amount, 0, 99999);
        possible(now.state[milestone] == 2);
        return IntStream.rangeClosed(0, 1000).filter(share -> {
            int payment = splitPayment(milestone, share);
            return payment - now.fee(payment) >= amount;
        }).findFirst().orElse(-1);
    }

    public int shortDay(int days) {
        range(days, 1, 120);
        Money later = new Money(now);
        for (int passed = 0; passed < days; passed++) {
            later.pass();
            if (later.isShort()) {
                return later.day;
            }
        }
        return -1;
    }

    public int deposit(int amount) {
        range(amount, 1, 99999);
        possible(now.deposited + amount <= 9999999);
        edit();
        now.put(amount);
        return now.principal;
    }

    public boolean submit(int proof) {
        index(proof, proofs());
        edit();
        return now.submitted.add(proof);
    }

    public boolean approve(int milestone) {
        stone(milestone);
        possible(!now.closed(milestone));
        edit();
        now.approved.add(milestone);
        return holds(milestone);
    }

    public int pay(int milestone, int amount) {
        stone(milestone);
        range(amount, 1, now.remaining(milestone));
        possible(now.state[milestone] != 2 && amount <= now.available());
        edit();
        return now.payment(milestone, amount, false);
    }

    public int dispute(int milestone) {
        stone(milestone);
        possible(now.state[milestone] < 2);
        edit();
        now.frozen[milestone] = Math.min(now.remaining(milestone), now.available());
        now.state[milestone] = 2;
        return now.frozen[milestone];
    }

    public int withdraw(int milestone) {
        stone(milestone);
        possible(now.state[milestone] == 2);
        edit();
        now.frozen[milestone] = 0;
        now.state[milestone] = 0;
        return now.available();
    }

    public int resolve(int milestone, int share) {
        int payment = splitPayment(milestone, share);
        edit();
        int rest = now.toSplit(milestone) - payment;
        now.frozen[milestone] = 0;
        now.payment(milestone, payment, true);
        now.principal -= rest;
        now.refunded += rest;
        now.note(2, rest, milestone);
        return payment;
    }

    public int cancel(int milestone) {
        stone(milestone);
        possible(now.state[milestone] < 2);
        edit();
        int remained = now.remaining(milestone);
        now.state[milestone] = 5;
        return remained;
    }

    public int payInterest(int amount) {
        range(amount, 1, now.pot);
        edit();
        now.pot -= amount;
        now.note(4, amount, -1);
        return (int) now.pot;
    }

    public int close() {
        possible(now.stones().allMatch(now::closed));
        edit();
        int amount = now.principal;
        now.principal = 0;
        now.refunded += amount;
        now.note(2, amount, -1);
        return amount;
    }

    public int setRate(int rate, int basis) {
        range(rate, 0, 3000);
        range(basis, basis == 360 ? 360 : 365, basis == 360 ? 360 : 365);
        edit();
        int previous = now.rate;
        now.rate = rate;
        now.basis = basis;
        return previous;
    }

    public int setGrace(int days) {
        range(days, 0, 60);
        edit();
        int previous = now.grace;
        now.grace = days;
        return previous;
    }

    public int pass(int days) {
        range(days, 1, 120);
        possible(now.day + days <= 9999);
        edit();
        int before = now.received + now.fees;
        for (int passed = 0; passed < days; passed++) {
            now.pass();
        }
        return now.received + now.fees - before;
    }

    public int undo() {
        if (edits.isEmpty()) {
            return -1;
        }
        now = edits.removeLast();
        return edits.size();
    }

    public int write(int milestone) {
        stone(milestone);
        int state = now.state[milestone];
        Stone stone = now.text.stones.get(milestone);
        output = stone.name + " " + List.of("open", "due", "disputed", "paid", "settled", "cancelled").get(state) + " "
            + now.paid[milestone] + "/" + stone.amount + (state == 1 ? " since " + now.dueDay[milestone] : "")
            + (state == 2 ? " frozen " + now.frozen[milestone] : "");
        return output.length();
    }

    public char written(int k) {
        index(k, output.length());
        return output.charAt(k);
    }

    public int entries() {
        return now.entries.size();
    }

    public int entry(int entry, int what) {
        index(entry, entries());
        range(what, 0, 3);
        Entry one = now.entries.get(entry);
        return new int[] {one.kind, one.day, one.amount, one.stone}[what];
    }

    public int totalOn(int day, int kind) {
        range(kind, 0, 4);
        return now.entries.stream().filter(one -> one.day == day && one.kind == kind).mapToInt(Entry::amount).sum();
    }

    public int busiestDay() {
        Map<Integer, Integer> sums = new TreeMap<>();
        now.entries.stream().filter(one -> one.kind == 1).forEach(one -> sums.merge(one.day, one.amount, Integer::sum));
        int most = sums.values().stream().mapToInt(sum -> sum).max().orElse(0);
        return sums.keySet().stream().filter(day -> sums.get(day) == most).findFirst().orElse(-1);
    }
}
