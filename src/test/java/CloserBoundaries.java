import java.util.ArrayList;
import java.util.LinkedHashMap;
import java.util.List;
import java.util.Map;

/** A second look at clauses that wrong classes got past, or that only the tests of other clauses held against them. */
final class CloserBoundaries {
    private static final int NONE = EscrowDesk.NONE;

    private CloserBoundaries() {
    }

    static void run() {
        Check.parts(CloserBoundaries::principalAndPot, CloserBoundaries::heldMoney, CloserBoundaries::daysOfInterest,
            CloserBoundaries::openMilestonesAlone, CloserBoundaries::entriesOfOne, CloserBoundaries::depositsOfALaterText,
            CloserBoundaries::everyEditUndone, CloserBoundaries::tenMilestonesUndone, CloserBoundaries::badTextInAnyState,
            CloserBoundaries::errorOfTheLatestLoad, CloserBoundaries::sums, CloserBoundaries::milestones,
            CloserBoundaries::holds, CloserBoundaries::missingProofs, CloserBoundaries::graceLeft, CloserBoundaries::proofs,
            CloserBoundaries::shortage, CloserBoundaries::tenMilestonesTried, CloserBoundaries::splits,
            CloserBoundaries::depositsAndProofs, CloserBoundaries::approvals, CloserBoundaries::frozenAmounts,
            CloserBoundaries::settled, CloserBoundaries::outputAndTotals);
    }

    private static String ten(String condition) {
        StringBuilder text = new StringBuilder();
        for (char name = 'a'; name <= 'j'; name++) {
            text.append("milestone ").append(name).append(" 50 1 when ").append(condition).append(';');
        }
        return text.toString();
    }

    private static void principalAndPot() {
        Document.says("MONEY", "The principal is what was deposited and is neither paid nor refunded.");
        EscrowDesk x = Desks.of("fee 2000; deposit 1000; milestone a 100 1 when approved;");
        x.pay(0, 100);
        Check.due("the fee is paid from it, too", 900, x.principal());
        Document.says("MONEY", "The interest pot is what was credited as interest and is not paid out.");
        EscrowDesk y = Desks.of("rate 3000 360; deposit 1000;");
        y.pass(60);
        Check.due("two credits", 50, y.interestPot());
    }

    private static void heldMoney() {
        Document.says("MONEY", "Held money is both together.");
        EscrowDesk x = Desks.of("rate 3000 360; deposit 1000; milestone a 600 1 when approved;");
        x.pass(30);
        x.dispute(0);
        x.pass(1);
        Check.due("what is frozen is held", 1025 * 3000, x.accruedParts());
    }

    private static void daysOfInterest() {
        Document.says("A DAY", "When a day passes: (1) the held money times RATE is added to the accrued parts (0 at first).");
        EscrowDesk x = Desks.of("rate 3000 360; deposit 1000;");
        x.pass(29);
        Check.due("29 days", 29 * 3000000, x.accruedParts());
        x.pass(1);
        Check.due("the thirtieth is in the credit", 25, x.interestPot());
        x.pass(1);
        Check.due("a day behind it", 1025 * 3000, x.accruedParts());
        Check.due("another text", 0, Desks.load(x, "rate 3000 360; deposit 1000;"));
        Check.due("0 at first", 0, x.accruedParts());
    }

    private static void openMilestonesAlone() {
        Document.says("A DAY", "(4) Each open milestone, in order of number, whose condition holds becomes due;");
        EscrowDesk x = Desks.of("grace 9; deposit 100; milestone a 50 1 when always; milestone b 50 1 when always;"
            + " milestone c 5 1 when always; milestone d 5 1 when day 2;");
        x.dispute(1);
        x.cancel(2);
        x.pass(1);
        Check.due("the open one", 1, x.state(0));
        Check.due("not the disputed one", 2, x.state(1));
        Check.due("not the closed one", 5, x.state(2));
        Check.due("not one whose condition does not hold", 0, x.state(3));
        x.pass(3);
        Check.due("one that is due does not become due again", 1, x.dueDay(0));
        Check.due("day 2", 2, x.dueDay(3));
        EscrowDesk y = Desks.of("deposit 100; milestone a 50 1 when always;");
        Check.due("it becomes due before the payments of that day", 50, y.pass(1));
    }

    private static void entriesOfOne() {
        Document.says("LEDGER", "only those with an amount greater than 0.");
        EscrowDesk x = Desks.of("rate 3000 360; deposit 44; milestone a 1 1 when approved; milestone b 1 1 when approved;");
        x.deposit(1);
        x.pay(0, 1);
        x.dispute(1);
        x.resolve(1, 0);
        x.pass(30);
        x.payInterest(1);
        Check.due("a deposit of 1", "0 0 1 -1", Desks.entry(x, 1));
        Check.due("a payment of 1", "1 0 1 0", Desks.entry(x, 2));
        Check.due("a refund of 1, behind no payment of 0", "2 0 1 1", Desks.entry(x, 3));
        Check.due("a credit of 1", "3 30 1 -1", Desks.entry(x, 4));
        Check.due("a payout of 1", "4 30 1 -1", Desks.entry(x, 5));
        Check.due("six entries", 6, x.entries());
        x.setRate(0, 360);
        x.pass(60);
        Check.due("less than a unit has accrued", 270000, x.accruedParts());
        Check.due("credits of 0 are no entries", 6, x.entries());
    }

    private static void depositsOfALaterText() {
        Document.says("LEDGER", "Deposits of the text are recorded on day 0.");
        EscrowDesk x = Desks.of("deposit 5;");
        x.pass(120);
        Check.due("a text on day 120", 0, Desks.load(x, "deposit 7; deposit 8;"));
        Check.due("its first deposit", "0 0 7 -1", Desks.entry(x, 0));
        Check.due("its second deposit", "0 0 8 -1", Desks.entry(x, 1));
        Check.due("no other", 2, x.entries());
    }

    /** A desk on which every edit is possible; each edit is done and undone there, and compared with a desk that never did it. */
    private static EscrowDesk busy() {
        EscrowDesk x = Desks.of("rate 3000 360; fee 100; grace 2; deposit 9000; milestone a 60 1 when proof p;"
            + " milestone b 70 1 when approved; milestone c 80 1 when day 1; milestone d 90 1 when approved;");
        x.pass(30);
        x.dispute(1);
        return x;
    }

    private static EscrowDesk closed() {
        EscrowDesk x = Desks.of("rate 3000 360; deposit 9000; milestone a 60 1 when always;");
        x.pass(30);
        return x;
    }

    private static void everyEditUndone() {
        Document.says("ERRORS AND EDITS", "Every successful edit can be undone, also if it changed nothing.");
        EscrowDesk x = busy();
        EscrowDesk y = closed();
        Map<String, Check.Call> edits = new LinkedHashMap<>();
        edits.put("deposit", () -> x.deposit(77));
        edits.put("submit", () -> x.submit(0) ? 1 : 0);
        edits.put("approve", () -> x.approve(3) ? 1 : 0);
        edits.put("pay a part", () -> x.pay(3, 50));
        edits.put("pay all", () -> x.pay(0, 60));
        edits.put("dispute", () -> x.dispute(0));
        edits.put("withdraw", () -> x.withdraw(1));
        edits.put("resolve", () -> x.resolve(1, 500));
        edits.put("cancel", () -> x.cancel(3));
        edits.put("payInterest", () -> x.payInterest(3));
        edits.put("setRate", () -> x.setRate(10, 365));
        edits.put("setGrace", () -> x.setGrace(60));
        edits.put("pass", () -> x.pass(31));
        edits.put("close", () -> y.close());
        for (Map.Entry<String, Check.Call> edit : edits.entrySet()) {
            boolean last = edit.getKey().equals("close");
            edit.getValue().answer();
            Check.due(edit.getKey() + " is undone", last ? 1 : 2, last ? y.undo() : x.undo());
            Check.due("as if there had been no " + edit.getKey(), Story.now(last ? closed() : busy()), Story.now(last ? y : x));
            // What no method tells shows itself in what comes later.
            Check.due("the rate, behind " + edit.getKey(), 3000, last ? y.setRate(1, 360) : x.setRate(1, 360));
            Check.due("that is undone", last ? 1 : 2, last ? y.undo() : x.undo());
            Check.due("the grace period, behind " + edit.getKey(), last ? 0 : 2, last ? y.setGrace(1) : x.setGrace(1));
            Check.due("that is undone, too", last ? 1 : 2, last ? y.undo() : x.undo());
        }
        Check.due("still as the other one, all the way back", Story.whole(busy()), Story.whole(x));
        Check.due("the closed one as well", Story.whole(closed()), Story.whole(y));
        EscrowDesk idle = busy();
        idle.submit(0);
        Check.due("submit once more", false, idle.submit(0));
        Check.due("is undone by itself", 3, idle.undo());
        Check.due("the first one stays", true, idle.isSubmitted(0));
        idle.approve(1);
        idle.approve(1);
        Check.due("approve once more is undone by itself", 4, idle.undo());
        Check.due("the first one stays", true, idle.holds(1));
    }

    /** The last of ten milestones is as well remembered as the first. */
    private static void tenMilestonesUndone() {
        Document.says("ERRORS AND EDITS", "Every successful edit can be undone, also if it changed nothing.");
        for (int milestone = 0; milestone < 10; milestone++) {
            EscrowDesk x = Desks.of("grace 3; deposit 999;" + ten("always"));
            String fresh = Story.now(x);
            List<String> stories = new ArrayList<>(List.of(fresh));
            x.pay(milestone, 20);
            stories.add(Story.now(x));
            x.dispute(milestone);
            stories.add(Story.now(x));
            x.withdraw(milestone);
            stories.add(Story.now(x));
            x.pass(1);
            stories.add(Story.now(x));
            x.dispute(milestone);
            stories.add(Story.now(x));
            x.resolve(milestone, 100);
            for (int left = stories.size() - 1; left >= 0; left--) {
                Check.due("edits left, milestone " + milestone, left, x.undo());
                Check.due("milestone " + milestone + ", edit " + left + " undone", stories.get(left), Story.now(x));
            }
        }
    }

    private static void badTextInAnyState() {
        Document.says(3, "BAD_TEXT if the text is not legal (everything but the buffer stays).");
        EscrowDesk x = busy();
        Check.due("a text that ends too early", EscrowDesk.BAD_TEXT, Desks.load(x, "fee 9; milestone q 7 1 when day 3; rate"));
        Check.due("as if it had not been read", Story.now(busy()), Story.now(x));
        Check.due("its names, too", "c paid 80/80", Desks.line(x, 2));
        x.undo();
        Check.due("an edit before it is undone", 0, x.frozen(1));
        EscrowDesk fresh = new EscrowDesk();
        Check.due("milestones of a bad text", EscrowDesk.BAD_TEXT, Desks.load(fresh, ten("always") + "?"));
        Check.due("are not there", 0, fresh.milestones());
    }

    private static void errorOfTheLatestLoad() {
        Document.says(4, "Returns the kind of the error of the latest load() that did not throw an exception;");
        EscrowDesk x = new EscrowDesk();
        Desks.load(x, "fee 2001;");
        for (int length : new int[] {-1, 1, Integer.MIN_VALUE, Integer.MAX_VALUE}) {
            Check.noArgument("load(" + length + ")", () -> x.load(length));
            Check.due("the kind stays", 3, x.errorKind());
        }
        x.deposit(5);
        x.undo();
        Check.due("edits leave it", 3, x.errorKind());
    }

    private static void sums() {
        Document.says(6, "Returns the present day.");
        EscrowDesk late = ErrorBoundaries.onTheLastDay();
        Check.due("the last day", 9999, late.day());
        late.undo();
        late.pass(1);
        Check.due("a day of four digits", true, late.day() > 9000 && late.day() < 9999);
        Document.says(7, "Returns the sum of all deposits.");
        EscrowDesk x = Desks.of("deposit 100; milestone a 60 1 when approved; milestone b 10 1 when approved;");
        x.pay(0, 60);
        x.dispute(1);
        x.resolve(1, 0);
        x.close();
        Check.due("payments and refunds do not lessen it", 100, x.deposited());
        Document.says(16, "Returns the number of milestones.");
        Check.due("ten", 10, Desks.of(ten("always")).milestones());
        EscrowDesk y = Desks.of(ten("always"));
        y.cancel(3);
        Check.due("closed ones count", 10, y.milestones());
    }

    private static void milestones() {
        EscrowDesk x = Desks.of("deposit 500; milestone a 40 1 when approved; milestone b 50 1 when approved;"
            + " milestone c 60 1 when approved; milestone d 600 1 when approved;");
        x.pay(0, 40);
        x.pay(1, 10);
        x.dispute(1);
        x.resolve(1, 500);
        x.pay(2, 5);
        x.cancel(2);
        x.dispute(3);
        Document.says(17, "Returns the state of a milestone.");
        Check.due("paid", 3, x.state(0));
        Check.due("settled", 4, x.state(1));
        Check.due("cancelled", 5, x.state(2));
        Check.due("disputed", 2, x.state(3));
        Document.says(18, "Returns the paid amount of a milestone.");
        Check.due("of a paid one", 40, x.paid(0));
        Check.due("of a settled one", 30, x.paid(1));
        Check.due("of a cancelled one", 5, x.paid(2));
        Document.says(19, "Returns the remaining amount of a milestone.");
        Check.due("of a paid one", 0, x.remaining(0));
        Check.due("of a settled one", 0, x.remaining(1));
        Check.due("of a cancelled one", 0, x.remaining(2));
        Check.due("of a disputed one", 600, x.remaining(3));
        Document.says(20, "Returns the frozen amount of a milestone.");
        Check.due("less than remains", 500 - 40 - 10 - 40 - 5, x.frozen(3));
        Check.due("of a settled one", 0, x.frozen(1));
    }

    private static void holds() {
        Document.says(22, "Tells whether the condition of a milestone holds now (whatever its state).");
        EscrowDesk x = Desks.of("grace 60; deposit 9; milestone a 1 1 when not approved;");
        x.pass(1);
        Check.due("due, and it holds", true, x.holds(0));
        x.approve(0);
        Check.due("still due", 1, x.state(0));
        Check.due("but it does not hold any more", false, x.holds(0));
    }

    private static void missingProofs() {
        Document.says(24, "NONE if there is no such set.");
        StringBuilder all = new StringBuilder("milestone a 1 1 when proof p");
        for (char name = 'q'; name <= 'w'; name++) {
            all.append(" and proof ").append(name);
        }
        Check.due("all eight are such a set", 255, Desks.of(all + ";").missingProofs(0));
        Check.due("with a ninth fact there is none", NONE, Desks.of(all + " and approved;").missingProofs(0));
    }

    private static void graceLeft() {
        Document.says(27, "Returns how many days of the grace period of a due milestone are left.");
        EscrowDesk x = Desks.of("grace 5; deposit 9; milestone a 1 1 when always;");
        x.pass(2);
        Check.due("four of five", 4, x.graceLeft(0));
        x.setGrace(60);
        Check.due("59 of 60, as the period is now", 59, x.graceLeft(0));
    }

    private static void proofs() {
        Document.says(28, "Returns the number of different proofs in the text.");
        EscrowDesk x = Desks.of("milestone a 1 1 when proof a or proof b or proof c or proof d or proof e or proof f or proof g"
            + " or proof hh or proof a;");
        Check.due("eight", 8, x.proofs());
        Document.says(30, "Throws `IndexOutOfBoundsException` if there is no such proof or no such character");
        // Names of earlier texts are not there any more, whatever place they had.
        for (int texts = 0; texts < 3; texts++) {
            Check.due("a text with one proof", 1, Desks.load(x, "milestone a 1 1 when proof xyz;"));
            for (int proof = 1; proof < 9; proof++) {
                int gone = proof;
                Check.noIndex("proof " + gone, () -> x.proofCharacter(gone, 0));
            }
            Check.noIndex("a fourth character", () -> x.proofCharacter(0, 3));
        }
        Document.says(30, "- `index`: 0 for the first character");
        Check.due("x", 'x', x.proofCharacter(0, 0));
        Check.due("y", 'y', x.proofCharacter(0, 1));
        Check.due("z", 'z', x.proofCharacter(0, 2));
    }

    private static void shortage() {
        Document.says(34, "Returns the sum of the remaining amounts of all milestones, minus the principal, if that is greater"
            + " than 0;");
        EscrowDesk x = Desks.of("rate 3000 360; deposit 1000; milestone a 1100 1 when approved;");
        x.pass(30);
        Check.due("the interest pot is no principal", 100, x.shortage());
        x.dispute(0);
        Check.due("a disputed one has its remaining amount", 100, x.shortage());
    }

    private static void tenMilestonesTried() {
        Document.says(36, "Returns the paid amount of a milestone after so many more days.");
        EscrowDesk x = Desks.of("grace 1; deposit 999;" + ten("approved or day 3"));
        for (int milestone = 0; milestone < 10; milestone++) {
            x.pay(milestone, milestone + 1);
        }
        x.dispute(9);
        for (int milestone = 0; milestone < 9; milestone++) {
            Check.due("before, " + milestone, milestone + 1, x.paidAfter(milestone, 3));
            Check.due("then, " + milestone, 50, x.paidAfter(milestone, 4));
        }
        Check.due("the tenth is disputed in the trial, too", 10, x.paidAfter(9, 120));
        x.withdraw(9);
        Check.due("and it is not behind that", 50, x.paidAfter(9, 4));
        x.pass(3);
        Check.due("due on day 3, paid on day 4", 50, x.paidAfter(9, 1));
        x.setGrace(2);
        Check.due("not with a longer grace period", 10, x.paidAfter(9, 1));
        Check.due("but a day later", 50, x.paidAfter(9, 2));
        Document.says(38, "Returns how many days must pass until a milestone is closed.");
        Check.due("two", 2, x.daysUntilClosed(9));
        x.cancel(9);
        Check.due("it is closed", 0, x.daysUntilClosed(9));
    }

    private static void splits() {
        EscrowDesk x = Desks.of("fee 1000; deposit 60; milestone a 100 1 when approved;");
        x.dispute(0);
        Document.says(39, "Returns the payment that resolve() would make.");
        Check.due("with the fee", 30, x.splitPayment(0, 500));
        x.deposit(40);
        Check.due("of what is available then, more than what is frozen", 50, x.splitPayment(0, 500));
        Document.says(40, "Returns the smallest share with which resolve() would give the seller at least an amount, without"
            + " the fee.");
        Check.due("99 without a fee of 9", 990, x.shareFor(0, 90));
        Check.due("66 without a fee of 6", 660, x.shareFor(0, 60));
        Check.due("91 cannot be", NONE, x.shareFor(0, 91));
        x.deposit(500);
        Check.due("more than the remaining amount is not split", 50, x.splitPayment(0, 500));
        Document.says(39, "Returns the payment that resolve() would make.");
        Check.due("as it makes it", x.splitPayment(0, 333), x.resolve(0, 333));
    }

    private static void depositsAndProofs() {
        Document.says(42, "Returns the principal then.");
        EscrowDesk x = Desks.of("deposit 60; milestone a 50 1 when proof p and proof q and proof r;");
        x.dispute(0);
        Check.due("not the available money", 65, x.deposit(5));
        x.resolve(0, 1000);
        Check.due("not the sum of deposits", 17, x.deposit(2));
        Document.says(43, "Submits a proof.");
        x.submit(0);
        x.submit(1);
        Check.due("one does not take the place of another", true, x.isSubmitted(0));
        x.submit(1);
        Check.due("once more does not take it back", true, x.isSubmitted(1));
        Check.due("the third", false, x.isSubmitted(2));
    }

    private static void approvals() {
        Document.says(44, "Approves a milestone.");
        EscrowDesk x = Desks.of("grace 9; deposit 60; milestone a 5 1 when approved; milestone b 5 1 when approved;"
            + " milestone c 5 1 when approved;");
        x.approve(0);
        x.approve(1);
        Check.due("one does not take the place of another", true, x.holds(0));
        x.approve(1);
        Check.due("once more does not take it back", true, x.holds(1));
        Check.due("the third", false, x.holds(2));
    }

    private static void frozenAmounts() {
        Document.says(46, "The smaller one of its remaining amount and the available money is frozen.");
        EscrowDesk x = Desks.of("deposit 100; milestone a 80 1 when approved; milestone b 80 1 when approved;"
            + " milestone c 80 1 when approved;");
        x.pay(0, 30);
        x.dispute(0);
        Check.due("its remaining amount", 50, x.frozen(0));
        x.dispute(1);
        Check.due("the available money, not the principal", 20, x.frozen(1));
        x.dispute(2);
        Check.due("nothing is left", 0, x.frozen(2));
    }

    private static void settled() {
        EscrowDesk x = Desks.of("fee 1000; deposit 60; milestone a 100 1 when approved; milestone b 9 1 when approved;");
        Document.says(48, "Ends a dispute by a split.");
        x.dispute(0);
        x.resolve(0, 500);
        Check.due("it is closed", 1, x.closedCount());
        Check.noState("it is disputed no more", () -> x.resolve(0, 500));
        Document.says(48, "The frozen amount is released;");
        EscrowDesk y = Desks.of("fee 1000; deposit 60; milestone a 100 1 when approved; milestone b 90 1 when approved;");
        Check.due("all is frozen", 60, y.dispute(0));
        Document.says(48, "Returns the payment.");
        Check.due("with the fee", 30, y.resolve(0, 500));
        Document.says(48, "The frozen amount is released;");
        Check.due("nothing is frozen", 0, y.frozen(0));
        y.deposit(7);
        Check.due("all is available", 7, y.available());
    }

    private static void outputAndTotals() {
        Document.says(56, "Writes a milestone to the output, in place of what the output has: its name, a space, the word for"
            + " its state");
        EscrowDesk x = Desks.of("deposit 100; grace 9; milestone abc 80 1 when always; milestone d 50 1 when approved;");
        x.pay(0, 7);
        x.pay(1, 5);
        x.dispute(1);
        x.resolve(1, 1000);
        Check.due("settled", "d settled 50/50", Desks.line(x, 1));
        Document.says(56, "if it is due, then \" since \" and its due day;");
        x.pass(3);
        Check.due("due on day 1", "abc due 7/80 since 1", Desks.line(x, 0));
        x.pay(0, 1);
        x.cancel(0);
        Check.due("closed, though it was due", "abc cancelled 8/80", Desks.line(x, 0));
        Document.says(57, "- `k`: index, from 0");
        Check.due("the first", 'a', x.written(0));
        Check.due("the second", 'b', x.written(1));
        Document.says(60, "Throws `IllegalArgumentException` if kind is out of range");
        Check.due("a day is not", 0, x.totalOn(-1, 4) + x.totalOn(Integer.MAX_VALUE, 0));
        Check.noArgument("kind 5", () -> x.totalOn(0, 5));
        Check.noArgument("kind -1", () -> x.totalOn(0, -1));
    }
}
