import java.util.function.Supplier;

/** The clauses that many promises share: the milestone that does not exist, and the ranges of the parameters. */
final class PromiseBoundaries {
    private static final String NO_MILESTONE = "Throws `IndexOutOfBoundsException` if there is no such milestone";
    private static final String DAYS = "- `days`: 1 to 120";
    private static final String NO_DAYS = "Throws `IllegalArgumentException` if days is out of range";

    /** A call with one value that is looked at. */
    interface With {
        long answer(EscrowDesk x, int value);
    }

    private PromiseBoundaries() {
    }

    static void run() {
        Check.parts(PromiseBoundaries::milestonesThatDoNotExist, PromiseBoundaries::days, PromiseBoundaries::shares,
            PromiseBoundaries::amounts, PromiseBoundaries::ratesAndGrace, PromiseBoundaries::kindsAndParts,
            PromiseBoundaries::sets);
    }

    /** Milestones that are open, and ones that are disputed, as many as asked for, with money enough. */
    private static EscrowDesk open(int milestones) {
        StringBuilder text = new StringBuilder("deposit 99999;");
        for (int milestone = 0; milestone < milestones; milestone++) {
            text.append("milestone ").append((char) ('a' + milestone)).append(" 50 1 when approved;");
        }
        return Desks.of(text.toString());
    }

    private static EscrowDesk disputed(int milestones) {
        EscrowDesk x = open(milestones);
        for (int milestone = 0; milestone < milestones; milestone++) {
            x.dispute(milestone);
        }
        return x;
    }

    private static void milestone(int promise, boolean ofADispute, With call) {
        Document.says(promise, NO_MILESTONE);
        for (int milestones : new int[] {0, 1, 2, 9, 10}) {
            EscrowDesk x = ofADispute ? disputed(milestones) : open(milestones);
            String before = Story.now(x);
            for (int no : new int[] {-1, milestones, milestones + 1, 10, 11, 31, 32, Integer.MIN_VALUE, Integer.MAX_VALUE}) {
                Check.noIndex(no + " of " + milestones, () -> call.answer(x, no));
            }
            Check.due("nothing changed", before, Story.now(x));
            Check.due("no edit", ofADispute ? milestones - 1 : EscrowDesk.NONE, x.undo());
            for (int milestone = 0; milestone < milestones; milestone++) {
                EscrowDesk fresh = ofADispute ? disputed(milestones) : open(milestones);
                int there = milestone;
                Check.due(there + " of " + milestones, false, Check.outcome(() -> call.answer(fresh,
                    there)).endsWith("Exception"));
            }
        }
    }

    private static void milestonesThatDoNotExist() {
        milestone(17, false, (x, m) -> x.state(m));
        milestone(18, false, (x, m) -> x.paid(m));
        milestone(19, false, (x, m) -> x.remaining(m));
        milestone(20, false, (x, m) -> x.frozen(m));
        milestone(21, false, (x, m) -> x.dueDay(m));
        milestone(22, false, (x, m) -> x.holds(m) ? 1 : 0);
        milestone(23, false, (x, m) -> x.dayByClock(m));
        milestone(24, false, (x, m) -> x.missingProofs(m));
        milestone(27, false, (x, m) -> x.graceLeft(m));
        milestone(31, false, (x, m) -> x.wouldHold(m, 0) ? 1 : 0);
        milestone(36, false, (x, m) -> x.paidAfter(m, 1));
        milestone(38, false, (x, m) -> x.daysUntilClosed(m));
        milestone(39, true, (x, m) -> x.splitPayment(m, 500));
        milestone(40, true, (x, m) -> x.shareFor(m, 5));
        milestone(44, false, (x, m) -> x.approve(m) ? 1 : 0);
        milestone(45, false, (x, m) -> x.pay(m, 1));
        milestone(46, false, (x, m) -> x.dispute(m));
        milestone(47, true, (x, m) -> x.withdraw(m));
        milestone(48, true, (x, m) -> x.resolve(m, 500));
        milestone(49, false, (x, m) -> x.cancel(m));
        milestone(56, false, (x, m) -> x.write(m));
    }

    /** The last values that are allowed, and the first ones that are not; these change nothing and are no edits. */
    private static void range(int promise, String range, String refusal, Supplier<EscrowDesk> made, With call, int low,
        int high) {
        Document.says(promise, range);
        for (int value : new int[] {low, Math.min(low + 1, high), high - 1 < low ? low : high - 1, high}) {
            EscrowDesk x = made.get();
            Check.due(Integer.toString(value), false, Check.outcome(() -> call.answer(x, value)).endsWith("Exception"));
        }
        Document.says(promise, refusal);
        EscrowDesk x = made.get();
        String before = Story.now(x);
        for (int value : new int[] {low - 1, low - 2, high + 1, high + 2, Integer.MIN_VALUE, Integer.MAX_VALUE, -high - 1}) {
            if (value < low || value > high) {
                Check.noArgument(Integer.toString(value), () -> call.answer(x, value));
            }
        }
        Check.due("nothing changed", before, Story.now(x));
        Check.due("no edit", made.get().undo(), x.undo());
    }

    private static void days() {
        Supplier<EscrowDesk> made = () -> Desks.of("rate 3000 360; deposit 500; milestone a 50 1 when day 2;");
        range(35, DAYS, NO_DAYS, made, (x, days) -> x.paymentsAfter(days), 1, 120);
        range(36, DAYS, NO_DAYS, made, (x, days) -> x.paidAfter(0, days), 1, 120);
        range(37, DAYS, NO_DAYS, made, (x, days) -> x.creditedAfter(days), 1, 120);
        range(41, DAYS, NO_DAYS, made, (x, days) -> x.shortDay(days), 1, 120);
        range(54, DAYS, NO_DAYS, made, (x, days) -> x.pass(days), 1, 120);
        Document.says(54, DAYS);
        EscrowDesk x = made.get();
        x.pass(1);
        Check.due("1 day", 1, x.day());
        x.pass(120);
        Check.due("120 days", 121, x.day());
        // Each reaches just as far as it is asked to.
        String text = "deposit 500; milestone a 50 1 when day 120; milestone b 50 1 when day 1; milestone c 99999 9 when day"
            + " 119;";
        Document.says(35, DAYS);
        Check.due("the payment of day 1", 50, Desks.of(text).paymentsAfter(1));
        Check.due("the payments of day 119", 500, Desks.of(text).paymentsAfter(119));
        Document.says(36, DAYS);
        Check.due("not on day 119", 0, Desks.of("deposit 50; milestone a 50 1 when day 120;").paidAfter(0, 119));
        Check.due("on day 120", 50, Desks.of("deposit 50; milestone a 50 1 when day 120;").paidAfter(0, 120));
        Check.due("on day 1", 50, Desks.of("deposit 50; milestone a 50 1 when day 1;").paidAfter(0, 1));
        Document.says(37, DAYS);
        Check.due("1 day has no credit", 0, Desks.of("rate 3000 360; deposit 1000;").creditedAfter(1));
        Check.due("119 days have three", 25 + 25 + 26, Desks.of("rate 3000 360; deposit 1000;").creditedAfter(119));
        Check.due("120 days have four", 25 + 25 + 26 + 27, Desks.of("rate 3000 360; deposit 1000;").creditedAfter(120));
        Document.says(41, DAYS);
        Check.due("short on day 1", 1, Desks.of("milestone a 1 1 when day 1;").shortDay(1));
        Check.due("short on day 120", 120, Desks.of("milestone a 1 1 when day 120;").shortDay(120));
        Check.due("not within 119 days", EscrowDesk.NONE, Desks.of("milestone a 1 1 when day 120;").shortDay(119));
    }

    private static void shares() {
        String range = "- `share`: 0 to 1000";
        String refusal = "Throws `IllegalArgumentException` if share is out of range";
        range(39, range, refusal, () -> disputed(1), (x, share) -> x.splitPayment(0, share), 0, 1000);
        range(48, range, refusal, () -> disputed(1), (x, share) -> x.resolve(0, share), 0, 1000);
        Document.says(39, range);
        Check.due("nothing", 0, disputed(1).splitPayment(0, 0));
        Check.due("all", 50, disputed(1).splitPayment(0, 1000));
        Document.says(48, range);
        Check.due("nothing", 0, disputed(1).resolve(0, 0));
        Check.due("all", 50, disputed(1).resolve(0, 1000));
    }

    private static EscrowDesk withPot(int pot) {
        EscrowDesk x = Desks.of("rate 3000 360; deposit " + 40 * pot + ";");
        x.pass(30);
        return x;
    }

    private static void amounts() {
        String refusal = "Throws `IllegalArgumentException` if amount is out of range";
        range(40, "- `amount`: 0 to 99999", refusal, () -> disputed(1), (x, amount) -> x.shareFor(0, amount), 0, 99999);
        range(42, "- `amount`: 1 to 99999", refusal, EscrowDesk::new, (x, amount) -> x.deposit(amount), 1, 99999);
        range(45, "- `amount`: 1 to its remaining amount", refusal, () -> open(2), (x, amount) -> x.pay(1, amount), 1, 50);
        range(45, "- `amount`: 1 to its remaining amount", refusal, () -> partlyPaid(49), (x, amount) -> x.pay(0, amount), 1, 1);
        range(45, "- `amount`: 1 to its remaining amount", refusal, () -> partlyPaid(1), (x, amount) -> x.pay(0, amount), 1, 49);
        range(45, "- `amount`: 1 to its remaining amount", refusal,
            () -> Desks.of("deposit 99999; milestone a 99999 1 when approved;"), (x, amount) -> x.pay(0, amount), 1, 99999);
        range(50, "- `amount`: 1 to the interest pot", refusal, () -> withPot(25), (x, amount) -> x.payInterest(amount), 1, 25);
        range(50, "- `amount`: 1 to the interest pot", refusal, () -> withPot(1), (x, amount) -> x.payInterest(amount), 1, 1);
        Document.says(50, refusal);
        EscrowDesk empty = new EscrowDesk();
        Check.noArgument("an empty pot", () -> empty.payInterest(1));
        Check.noArgument("an empty pot, nothing", () -> empty.payInterest(0));
        EscrowDesk emptied = withPot(25);
        emptied.payInterest(25);
        Check.noArgument("an emptied pot", () -> emptied.payInterest(1));
        Document.says(45, refusal);
        EscrowDesk closed = open(3);
        closed.pay(0, 50);
        closed.cancel(1);
        closed.dispute(2);
        closed.resolve(2, 0);
        for (int milestone = 0; milestone < 3; milestone++) {
            int number = milestone;
            Check.noArgument("nothing remains of a closed one", () -> closed.pay(number, 1));
            Check.noArgument("nothing remains of a closed one, nothing", () -> closed.pay(number, 0));
        }
        Document.says(40, "- `amount`: 0 to 99999");
        Check.due("0 needs no share", 0, disputed(1).shareFor(0, 0));
        Check.due("99999 are never too few", EscrowDesk.NONE, disputed(1).shareFor(0, 99999));
        EscrowDesk great = Desks.of("deposit 99999; milestone a 99999 1 when approved;");
        great.dispute(0);
        Check.due("99999 of 99999", 1000, great.shareFor(0, 99999));
        Document.says(42, "- `amount`: 1 to 99999");
        Check.due("1", 1, new EscrowDesk().deposit(1));
        Check.due("99999", 99999, new EscrowDesk().deposit(99999));
    }

    private static EscrowDesk partlyPaid(int amount) {
        EscrowDesk x = open(1);
        x.pay(0, amount);
        return x;
    }

    private static void ratesAndGrace() {
        String refusal = "Throws `IllegalArgumentException` if a parameter is out of range";
        Supplier<EscrowDesk> made = () -> Desks.of("rate 7 365; grace 9; deposit 500; milestone a 50 1 when day 2;");
        range(52, "- `rate`: 0 to 3000", refusal, made, (x, rate) -> x.setRate(rate, 360), 0, 3000);
        range(52, "- `rate`: 0 to 3000", refusal, made, (x, rate) -> x.setRate(rate, 365), 0, 3000);
        range(52, "- `basis`: 360 or 365", refusal, made, (x, basis) -> x.setRate(5, basis), 360, 360);
        Document.says(52, "- `basis`: 360 or 365");
        EscrowDesk x = made.get();
        Check.due("360", 7, x.setRate(5, 360));
        Check.due("365", 5, x.setRate(6, 365));
        Document.says(52, refusal);
        EscrowDesk y = made.get();
        String before = Story.now(y);
        for (int basis : new int[] {0, -360, 359, 361, 362, 363, 364, 366, 3600, Integer.MIN_VALUE, Integer.MAX_VALUE}) {
            Check.noArgument("basis " + basis, () -> y.setRate(5, basis));
            Check.noArgument("basis " + basis + " with a wrong rate", () -> y.setRate(3001, basis));
        }
        Check.noArgument("a wrong rate alone", () -> y.setRate(-1, 360));
        Check.due("nothing changed", before, Story.now(y));
        Check.due("the rate stayed", 7, y.setRate(0, 360));
        range(53, "- `days`: 0 to 60", NO_DAYS, made, (z, days) -> z.setGrace(days), 0, 60);
        Document.says(53, "- `days`: 0 to 60");
        EscrowDesk z = Desks.of("deposit 5; milestone a 5 1 when day 1;");
        z.setGrace(60);
        Check.due("60 days", 61, z.daysUntilClosed(0));
        z.setGrace(0);
        Check.due("0 days", 1, z.daysUntilClosed(0));
    }

    private static void kindsAndParts() {
        range(59, "- `what`: 0 for the kind, 1 for the day, 2 for the amount, 3 for the milestone",
            "Throws `IllegalArgumentException` if what is out of range", () -> open(1), (x, what) -> x.entry(0, what), 0, 3);
        range(60, "- `kind`: 0 to 4", "Throws `IllegalArgumentException` if kind is out of range", () -> open(1), (x,
            kind) -> x.totalOn(0, kind), 0, 4);
        range(3, "- `length`: number of bytes of the text, 0 to the number of bytes in the buffer",
            "Throws `IllegalArgumentException` if length is out of range (the buffer keeps its bytes)", EscrowDesk::new, (x,
                length) -> x.load(length), 0, 0);
    }

    private static void sets() {
        for (int milestones : new int[] {1, 2, 9, 10}) {
            range(31, "others than the numbers of milestones must not be in it", "Throws `IllegalArgumentException` if set is"
                + " out of range",
                () -> open(milestones), (x, set) -> x.wouldHold(0, set) ? 1 : 0, 0, (1 << milestones) - 1);
        }
        Document.says(31, "Throws `IllegalArgumentException` if set is out of range");
        EscrowDesk x = open(2);
        for (int set : new int[] {4, 5, 7, 8, 1 << 30, (1 << 30) + 1, Integer.MIN_VALUE + 1}) {
            Check.noArgument("set " + set, () -> x.wouldHold(1, set) ? 1 : 0);
        }
    }
}
