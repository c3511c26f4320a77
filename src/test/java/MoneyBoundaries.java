/** The clauses of MONEY, CONDITIONS, A DAY and LEDGER, each on both sides of what it names. */
final class MoneyBoundaries {
    private MoneyBoundaries() {
    }

    static void run() {
        Check.parts(MoneyBoundaries::heldMoney, MoneyBoundaries::amounts, MoneyBoundaries::states,
            MoneyBoundaries::frozenMoney, MoneyBoundaries::payments, MoneyBoundaries::paidOrSettled,
            MoneyBoundaries::dayFact, MoneyBoundaries::proofDoneAndSum, MoneyBoundaries::approvedAndAlways,
            MoneyBoundaries::andBeforeOr, MoneyBoundaries::dayByDay, MoneyBoundaries::credits,
            MoneyBoundaries::becomingDue, MoneyBoundaries::payingTheDue, MoneyBoundaries::orderOfPayments,
            MoneyBoundaries::ledgerKinds, MoneyBoundaries::ledgerParts, MoneyBoundaries::keptEntries);
    }

    private static void heldMoney() {
        Document.says("MONEY", "Money is counted in whole units.");
        EscrowDesk x = Desks.of("fee 1; deposit 99999; milestone a 99999 1 when approved; milestone b 999 1 when approved;");
        Check.due("no fee of 0.9999", 0, x.pay(0, 9999));
        Check.due("a fee of 1", 1, x.pay(0, 10000));
        x.dispute(1);
        Check.due("no payment of 0.999", 0, x.splitPayment(1, 1));
        Check.due("a payment of 1.998 is 1", 1, x.splitPayment(1, 2));
        Document.says("MONEY", "The principal is what was deposited and is neither paid nor refunded.");
        EscrowDesk y = Desks.of("rate 3000 360; deposit 1000; milestone a 300 1 when approved; milestone b 100 1 when approved;");
        y.deposit(7);
        Check.due("deposits", 1007, y.principal());
        y.pay(0, 1);
        Check.due("without a payment of 1", 1006, y.principal());
        y.pass(30);
        Check.due("without interest", 1006, y.principal());
        y.payInterest(1);
        Check.due("payouts of interest are not taken from it", 1006, y.principal());
        y.dispute(1);
        Check.due("what is frozen is in it", 1006, y.principal());
        y.resolve(1, 600);
        Check.due("without the split: 60 paid, 40 refunded", 906, y.principal());
        y.cancel(0);
        y.close();
        Check.due("without the last refund", 0, y.principal());
        Document.says("MONEY", "The interest pot is what was credited as interest and is not paid out.");
        EscrowDesk z = Desks.of("rate 3000 360; deposit 1000;");
        z.pass(29);
        Check.due("what has accrued is not credited", 0, z.interestPot());
        z.pass(1);
        Check.due("credited", 25, z.interestPot());
        z.payInterest(24);
        Check.due("but 24", 1, z.interestPot());
        z.payInterest(1);
        Check.due("but all", 0, z.interestPot());
        Document.says("MONEY", "Held money is both together.");
        EscrowDesk w = Desks.of("rate 3000 360; deposit 1000;");
        w.pass(30);
        w.close();
        Check.due("the pot alone is held", 25, w.interestPot());
        w.pass(1);
        Check.due("it earns", 25 * 3000, w.accruedParts());
        w.deposit(1);
        w.pass(1);
        Check.due("both earn", 25 * 3000 + 26 * 3000, w.accruedParts());
        w.payInterest(25);
        w.pass(1);
        Check.due("the principal alone", 25 * 3000 + 27 * 3000, w.accruedParts());
    }

    private static void amounts() {
        Document.says("MONEY", "A milestone has an amount, a paid amount (0 at first) and a remaining amount (the difference;");
        EscrowDesk x = Desks.of("deposit 99999; milestone a 99999 1 when approved; milestone b 1 1 when approved;");
        Check.due("paid at first", 0, x.paid(0));
        Check.due("remaining at first", 99999, x.remaining(0));
        x.pay(0, 1);
        Check.due("1 is paid", 1, x.paid(0));
        Check.due("the rest remains", 99998, x.remaining(0));
        x.pay(0, 99997);
        Check.due("all but 1", 1, x.remaining(0));
        x.dispute(0);
        Check.due("a disputed one has the difference, too", 1, x.remaining(0));
        x.withdraw(0);
        Document.says("MONEY", "0 if the milestone is closed).");
        x.pay(0, 1);
        Check.due("paid", 0, x.remaining(0));
        Check.due("the other", 1, x.remaining(1));
        x.cancel(1);
        Check.due("cancelled", 0, x.remaining(1));
        Check.due("nothing was paid for it", 0, x.paid(1));
        EscrowDesk y = Desks.of("deposit 50; milestone a 100 1 when approved;");
        y.dispute(0);
        y.resolve(0, 500);
        Check.due("settled", 0, y.remaining(0));
        Check.due("25 were paid for it", 25, y.paid(0));
    }

    private static void states() {
        Document.says("MONEY", "The states of a milestone are: 0 open (at first), 1 due, 2 disputed, 3 paid, 4 settled, 5"
            + " cancelled.");
        EscrowDesk x = Desks.of("deposit 100; grace 60; milestone a 10 1 when always; milestone b 10 1 when always;"
            + "milestone c 10 1 when always; milestone d 10 1 when approved;");
        for (int milestone = 0; milestone < 4; milestone++) {
            Check.due("at first", 0, x.state(milestone));
        }
        x.pass(1);
        Check.due("due", 1, x.state(0));
        Check.due("open", 0, x.state(3));
        x.dispute(1);
        Check.due("disputed", 2, x.state(1));
        x.pay(0, 10);
        Check.due("paid", 3, x.state(0));
        x.resolve(1, 1000);
        Check.due("settled", 4, x.state(1));
        x.cancel(2);
        Check.due("cancelled", 5, x.state(2));
        Document.says("MONEY", "The last three mean that it is closed.");
        Check.due("three are closed", 3, x.closedCount());
        Check.due("a closed one", 0, x.daysUntilClosed(2));
        Check.noState("an open one keeps the desk open", () -> x.close());
        x.dispute(3);
        Check.due("a disputed one is not closed", 3, x.closedCount());
        Check.noState("a disputed one keeps the desk open", () -> x.close());
        x.withdraw(3);
        x.approve(3);
        x.pass(1);
        Check.due("a due one is not closed", 3, x.closedCount());
        Check.noState("a due one keeps the desk open", () -> x.close());
        x.cancel(3);
        Check.due("now all are", 4, x.closedCount());
        Check.due("and the desk closes", 80, x.close());
    }

    private static void frozenMoney() {
        Document.says("MONEY", "A disputed milestone has a frozen amount;");
        EscrowDesk x = Desks.of("deposit 100; grace 60; milestone a 60 1 when always; milestone b 60 1 when always;"
            + "milestone c 60 1 when approved; milestone d 60 1 when approved;");
        x.dispute(0);
        Check.due("its remaining amount", 60, x.frozen(0));
        x.dispute(1);
        Check.due("what is available", 40, x.frozen(1));
        x.dispute(2);
        Check.due("nothing is available", 0, x.frozen(2));
        Document.says("MONEY", "all others have the frozen amount 0.");
        Check.due("open", 0, x.frozen(3));
        x.approve(3);
        x.pass(1);
        Check.due("due", 0, x.frozen(3));
        x.resolve(0, 0);
        Check.due("settled", 0, x.frozen(0));
        x.withdraw(1);
        Check.due("open again", 0, x.frozen(1));
        x.cancel(1);
        Check.due("cancelled", 0, x.frozen(1));
        x.pay(3, 40);
        x.deposit(20);
        x.pay(3, 20);
        Check.due("paid", 0, x.frozen(3));
        Document.says("MONEY", "The available money is the principal minus the frozen amounts of all milestones.");
        EscrowDesk y = Desks.of("deposit 100; milestone a 60 1 when always; milestone b 39 1 when always; milestone c 9 1 when"
            + " approved;");
        Check.due("nothing is frozen", 100, y.available());
        y.dispute(0);
        Check.due("60 are frozen", 40, y.available());
        y.dispute(1);
        Check.due("99 are frozen", 1, y.available());
        y.dispute(2);
        Check.due("all is frozen", 0, y.available());
        Check.due("the principal stays", 100, y.principal());
        y.deposit(5);
        Check.due("a deposit is available", 5, y.available());
        y.withdraw(0);
        Check.due("60 again", 65, y.available());
    }

    private static void payments() {
        Document.says("MONEY", "A payment of an amount for a milestone takes it from the principal and adds it to the paid"
            + " amount.");
        EscrowDesk x = Desks.of("fee 2000; deposit 100; milestone a 60 1 when approved; milestone b 60 1 when approved;");
        x.pay(0, 1);
        Check.due("principal", 99, x.principal());
        Check.due("paid", 1, x.paid(0));
        x.pay(0, 20);
        Check.due("principal, fee included", 79, x.principal());
        Check.due("paid, fee included", 21, x.paid(0));
        Check.due("not the other one", 0, x.paid(1));
        Document.says("MONEY", "The fee is amount * FEE / 10000, rounded down;");
        EscrowDesk y = Desks.of("fee 333; deposit 99999; milestone a 99999 1 when approved;");
        Check.due("30 * 333 is 9990", 0, y.pay(0, 30));
        Check.due("31 * 333 is 10323", 1, y.pay(0, 31));
        Check.due("60 * 333 is 19980", 1, y.pay(0, 60));
        Check.due("61 * 333 is 20313", 2, y.pay(0, 61));
        EscrowDesk z = Desks.of("fee 2000; deposit 99999; milestone a 99999 1 when approved;");
        Check.due("4 * 2000 is 8000", 0, z.pay(0, 4));
        Check.due("5 * 2000 is 10000", 1, z.pay(0, 5));
        Check.due("99990 * 2000 is 199980000", 19998, z.pay(0, 99990));
        Document.says("MONEY", "it goes to the platform, the rest to the seller.");
        Check.due("the platform", 19999, z.fees());
        Check.due("the seller", 80000, z.received());
        EscrowDesk w = Desks.of("fee 0; deposit 9; milestone a 9 1 when approved;");
        w.pay(0, 9);
        Check.due("no fee, nothing for the platform", 0, w.fees());
        Check.due("all for the seller", 9, w.received());
    }

    private static void paidOrSettled() {
        Document.says("MONEY", "If the remaining amount is 0 then, the milestone becomes paid (unless it is being settled).");
        EscrowDesk x = Desks.of("deposit 100; milestone a 60 1 when approved;");
        x.pay(0, 59);
        Check.due("1 remains", 0, x.state(0));
        x.pay(0, 1);
        Check.due("0 remains", 3, x.state(0));
        EscrowDesk y = Desks.of("deposit 59; milestone a 60 1 when always;");
        y.pass(1);
        Check.due("1 remains after a day's payment", 1, y.state(0));
        y.deposit(1);
        y.pass(1);
        Check.due("0 remains after the next", 3, y.state(0));
        for (int share : new int[] {999, 1000}) {
            EscrowDesk z = Desks.of("deposit 1000; milestone a 1000 1 when always;");
            z.dispute(0);
            z.resolve(0, share);
            Check.due("all but " + (1000 - share) + " was paid by a split", share, z.paid(0));
            Check.due("settled by a share of " + share, 4, z.state(0));
        }
    }

    private static boolean[] holdsFrom(EscrowDesk x, int milestone, int days) {
        boolean[] holds = new boolean[days + 1];
        for (int day = 0; day <= days; day++) {
            holds[day] = x.holds(milestone);
            x.pass(1);
        }
        return holds;
    }

    private static void dayFact() {
        Document.says("CONDITIONS", "\"day\" holds if the present day is DAY or later;");
        for (int named : new int[] {0, 1, 3}) {
            boolean[] holds = holdsFrom(Desks.of("milestone a 1 1 when day " + named + ";"), 0, 5);
            for (int day = 0; day <= 5; day++) {
                Check.due("day " + named + " on day " + day, day >= named, holds[day]);
            }
        }
    }

    private static void proofDoneAndSum() {
        Document.says("CONDITIONS", "\"proof\" if that proof was submitted;");
        EscrowDesk x = Desks.of("milestone a 1 1 when proof p; milestone b 1 1 when proof q;");
        Check.due("not submitted", false, x.holds(0));
        x.submit(0);
        Check.due("submitted", true, x.holds(0));
        Check.due("another one", false, x.holds(1));
        Document.says("CONDITIONS", "\"done\" if that milestone is paid or settled;");
        String two = "grace 60; deposit 100; milestone a 10 1 when always; milestone b 10 1 when done a;";
        EscrowDesk open = Desks.of(two);
        Check.due("open", false, open.holds(1));
        open.pass(1);
        Check.due("due", false, open.holds(1));
        open.pay(0, 9);
        Check.due("due, all but 1 was paid", false, open.holds(1));
        open.dispute(0);
        Check.due("disputed", false, open.holds(1));
        open.resolve(0, 0);
        Check.due("settled", true, open.holds(1));
        EscrowDesk paid = Desks.of(two);
        paid.pay(0, 10);
        Check.due("paid", true, paid.holds(1));
        EscrowDesk cancelled = Desks.of(two);
        cancelled.cancel(0);
        Check.due("cancelled", false, cancelled.holds(1));
        Document.says("CONDITIONS", "\"sum\" if the payments so far (fees included) are SUM or more;");
        EscrowDesk y = Desks.of("fee 2000; deposit 100; milestone a 60 1 when approved; milestone b 60 1 when sum 50;"
            + " milestone c 1 1 when sum 0;");
        Check.due("0 is 0 or more", true, y.holds(2));
        y.pay(0, 49);
        Check.due("49 of 50", false, y.holds(1));
        y.pay(1, 1);
        Check.due("50 of 50, whatever they were for, fees included", true, y.holds(1));
        y.pay(0, 1);
        Check.due("51 of 50", true, y.holds(1));
        EscrowDesk z = Desks.of("deposit 100; milestone a 60 1 when approved; milestone b 60 1 when sum 30;");
        z.dispute(0);
        z.resolve(0, 499);
        Check.due("refunds are no payments: 29 of 30", false, z.holds(1));
        z.deposit(50);
        Check.due("deposits are no payments", false, z.holds(1));
        z.undo();
        z.undo();
        z.resolve(0, 500);
        Check.due("the payment of a split counts: 30 of 30", true, z.holds(1));
    }

    private static void approvedAndAlways() {
        Document.says("CONDITIONS", "\"approved\" if this milestone was approved;");
        EscrowDesk x = Desks.of("milestone a 1 1 when approved; milestone b 1 1 when approved;");
        Check.due("not approved", false, x.holds(1));
        x.approve(0);
        Check.due("another one was", false, x.holds(1));
        Check.due("this one was", true, x.holds(0));
        x.approve(1);
        Check.due("approved", true, x.holds(1));
        Document.says("CONDITIONS", "\"always\" always.");
        EscrowDesk y = Desks.of("milestone a 1 1 when always; milestone b 1 1 when not always;");
        Check.due("on day 0", true, y.holds(0));
        Check.due("not always is never", false, y.holds(1));
        y.pass(120);
        y.cancel(0);
        Check.due("on day 120, closed", true, y.holds(0));
        Check.due("still never", false, y.holds(1));
    }

    private static void andBeforeOr() {
        Document.says("CONDITIONS", "\"and\" binds stronger than \"or\".");
        Check.due("yes or yes and no", true, Desks.of("milestone a 1 1 when always or always and approved;").holds(0));
        Check.due("(yes or yes) and no", false, Desks.of("milestone a 1 1 when (always or always) and approved;").holds(0));
        Check.due("no and no or yes", true, Desks.of("milestone a 1 1 when approved and approved or always;").holds(0));
        Check.due("no and (no or yes)", false, Desks.of("milestone a 1 1 when approved and (approved or always);").holds(0));
        Check.due("not no or yes: not binds strongest", true, Desks.of("milestone a 1 1 when not approved or always;").holds(0));
        Check.due("not yes or yes", true, Desks.of("milestone a 1 1 when not always or always;").holds(0));
        Check.due("not (yes or yes)", false, Desks.of("milestone a 1 1 when not (always or always);").holds(0));
        Check.due("not no and no", false, Desks.of("milestone a 1 1 when not approved and approved;").holds(0));
        Check.due("not (no and no)", true, Desks.of("milestone a 1 1 when not (approved and approved);").holds(0));
    }

    private static void dayByDay() {
        Document.says("A DAY", "The present day is 0 at first.");
        Check.due("of a new object", 0, new EscrowDesk().day());
        Check.due("of a text", 0, Desks.of("deposit 5; milestone a 1 1 when day 999;").day());
        EscrowDesk again = new EscrowDesk();
        again.pass(9);
        again.load(0);
        Check.due("of the next text", 0, again.day());
        Document.says("A DAY", "When a day passes: (1) the held money times RATE is added to the accrued parts (0 at first).");
        EscrowDesk x = Desks.of("rate 7 365; deposit 100; milestone a 99 1 when day 2; milestone b 50 1 when approved;");
        Check.due("at first", 0, x.accruedParts());
        x.dispute(1);
        x.pass(1);
        Check.due("100 * 7, what is frozen, too", 700, x.accruedParts());
        x.pass(1);
        Check.due("before the payment of that day", 1400, x.accruedParts());
        x.pass(1);
        Check.due("behind it 50 are held", 1750, x.accruedParts());
        x.setRate(0, 365);
        x.pass(1);
        Check.due("rate 0", 1750, x.accruedParts());
        EscrowDesk none = Desks.of("rate 3000 360;");
        none.pass(120);
        Check.due("no held money", 0, none.accruedParts());
        EscrowDesk greatest = Desks.of("rate 3000 360;");
        for (int deposits = 0; deposits < 100; deposits++) {
            greatest.deposit(99999);
        }
        greatest.deposit(99);
        greatest.pass(1);
        Check.due("9999999 * 3000", 29999997000L, greatest.accruedParts());
        Document.says("A DAY", "(2) The present day increases by 1.");
        EscrowDesk y = new EscrowDesk();
        y.pass(1);
        Check.due("1", 1, y.day());
        y.pass(119);
        Check.due("120", 120, y.day());
    }

    private static void credits() {
        Document.says("A DAY", "(3) If the present day is divisible by 30, the accrued parts are divided by 10000 * BASIS: the"
            + " quotient is credited");
        EscrowDesk x = Desks.of("rate 3000 360; deposit 1000;");
        x.pass(29);
        Check.due("day 29", 0, x.credited());
        Check.due("parts of day 29", 87000000L, x.accruedParts());
        x.pass(1);
        Check.due("day 30", 25, x.credited());
        Check.due("parts of day 30", 0, x.accruedParts());
        x.pass(1);
        Check.due("day 31", 25, x.credited());
        x.pass(28);
        Check.due("day 59", 25, x.credited());
        x.pass(1);
        Check.due("day 60", 50, x.credited());
        // 40 * 3000 * 30 is 3600000, one unit by a basis of 360; by 365 it is 50000 too few.
        EscrowDesk unit = Desks.of("rate 3000 360; deposit 40;");
        unit.pass(30);
        Check.due("just a unit", 1, unit.credited());
        Check.due("no remainder", 0, unit.accruedParts());
        EscrowDesk less = Desks.of("rate 3000 365; deposit 40;");
        less.pass(30);
        Check.due("not quite a unit", 0, less.credited());
        Check.due("all of it stays", 3600000, less.accruedParts());
        less.pass(30);
        Check.due("the next month makes it one", 1, less.credited());
        Check.due("the remainder stays", 7200000 - 3650000, less.accruedParts());
        EscrowDesk one = Desks.of("rate 2999 360; deposit 40;");
        one.pass(30);
        Check.due("1200 parts too few", 0, one.credited());
        Check.due("they stay", 3598800, one.accruedParts());
        // The credit of a day is held from then on, not on the day itself.
        EscrowDesk held = Desks.of("rate 3000 360; deposit 4000;");
        held.pass(30);
        Check.due("100 credited", 100, held.interestPot());
        held.pass(1);
        Check.due("4100 earn", 4100 * 3000, held.accruedParts());
    }

    private static void becomingDue() {
        Document.says("A DAY", "(4) Each open milestone, in order of number, whose condition holds becomes due;");
        EscrowDesk x = Desks.of("grace 60; deposit 9; milestone a 1 1 when always; milestone b 1 1 when day 2; milestone c 1 1"
            + " when always;"
            + "milestone d 1 1 when always; milestone e 1 1 when approved; milestone f 1 1 when not day 1;");
        Check.due("not before a day passes", 0, x.state(0));
        x.dispute(2);
        x.cancel(3);
        x.approve(4);
        Check.due("not when it is approved", 0, x.state(4));
        x.pass(1);
        Check.due("it holds", 1, x.state(0));
        Check.due("it does not hold", 0, x.state(1));
        Check.due("disputed", 2, x.state(2));
        Check.due("cancelled", 5, x.state(3));
        Check.due("approved", 1, x.state(4));
        Check.due("it held on day 0, on which no day had passed", 0, x.state(5));
        x.pass(1);
        Check.due("it holds by the new day", 1, x.state(1));
        Document.says("A DAY", "this day is its due day.");
        Check.due("of day 1", 1, x.dueDay(0));
        Check.due("of day 2", 2, x.dueDay(1));
        x.pass(5);
        Check.due("a due one keeps it", 1, x.dueDay(0));
        x.dispute(0);
        x.withdraw(0);
        x.pass(1);
        Check.due("an open one gets a new one", 8, x.dueDay(0));
    }

    private static void payingTheDue() {
        String fifth = "(5) The due milestones for which the present day is at least their due day plus the grace period are"
            + " paid";
        Document.says("A DAY", fifth);
        for (int grace : new int[] {0, 1, 5, 60}) {
            EscrowDesk x = Desks.of("grace " + grace + "; deposit 10; milestone a 10 1 when day 3;");
            Check.due("grace " + grace + ", until the day before", 0, x.pass(2 + grace));
            Check.due("grace " + grace + ", on the day", 10, x.pass(1));
            Check.due("that day is", 3 + grace, x.entry(1, 1));
        }
        EscrowDesk y = Desks.of("deposit 10; milestone a 10 1 when always; milestone b 10 1 when always;");
        y.dispute(0);
        y.pass(1);
        Check.due("a disputed one is not paid, and its money is not there for others", 0, y.paid(0) + y.paid(1));
        EscrowDesk z = Desks.of("deposit 9; milestone a 10 1 when always; milestone b 1 1 when always;");
        Check.due("the smaller one is the available money", 9, z.pass(1));
        Check.due("of the first", 9, z.paid(0));
        Check.due("nothing for the second", 0, z.paid(1));
        Check.due("no payment of 0", 2, z.entries());
        z.deposit(5);
        Check.due("the smaller one is the remaining amount", 2, z.pass(1));
        Check.due("the rest stays", 3, z.available());
        EscrowDesk w = Desks.of("deposit 1; milestone a 10 1 when always;");
        Check.due("1 is greater than 0", 1, w.pass(1));
        Check.due("0 is not", 0, w.pass(1));
        Check.due("no entry of it", 2, w.entries());
        Check.due("it stays due", 1, w.state(0));
    }

    private static void orderOfPayments() {
        Document.says("A DAY", "in order of their priorities, smaller ones first, and of equal priorities in order of number");
        EscrowDesk x = Desks.of("deposit 28; milestone a 5 99 when always; milestone b 6 98 when always; milestone c 7 0 when"
            + " always;"
            + "milestone d 8 1 when always; milestone e 9 0 when always;");
        x.pass(1);
        Check.due("priority 0", "1 1 7 2", Desks.entry(x, 1));
        Check.due("priority 0, the next number", "1 1 9 4", Desks.entry(x, 2));
        Check.due("priority 1", "1 1 8 3", Desks.entry(x, 3));
        Check.due("priority 98, what is left", "1 1 4 1", Desks.entry(x, 4));
        Check.due("nothing for priority 99", 5, x.entries());
        x.deposit(7);
        x.pass(1);
        Check.due("then the rest of priority 98", "1 2 2 1", Desks.entry(x, 6));
        Check.due("then priority 99", "1 2 5 0", Desks.entry(x, 7));
        EscrowDesk y = Desks.of("deposit 3; grace 1; milestone a 3 5 when day 1; milestone b 3 1 when day 2;");
        y.pass(2);
        Check.due("a smaller priority within its grace period does not wait for its turn", 3, y.paid(0));
    }

    private static void ledgerKinds() {
        Document.says("LEDGER", "The ledger records, in order: 0 each deposit, 1 each payment (with its amount including the"
            + " fee), 2 each refund,");
        EscrowDesk x = Desks.of("rate 3000 360; fee 2000; deposit 4000; milestone a 100 1 when day 29; milestone b 100 1 when"
            + " approved;");
        x.pass(30);
        x.dispute(1);
        x.resolve(1, 250);
        x.payInterest(1);
        x.deposit(1);
        x.close();
        String[] due = {"0 0 4000 -1", "1 29 100 0", "3 30 99 -1", "1 30 25 1", "2 30 75 1", "4 30 1 -1", "0 30 1 -1",
            "2 30 3801 -1"};
        Check.due("entries", due.length, x.entries());
        for (int entry = 0; entry < due.length; entry++) {
            Check.due("entry " + entry, due[entry], Desks.entry(x, entry));
        }
        Document.says("LEDGER", "only those with an amount greater than 0.");
        x.close();
        Check.due("no refund of 0", due.length, x.entries());
        EscrowDesk y = Desks.of("deposit 3; milestone a 1 1 when approved; milestone b 1 1 when approved;");
        y.dispute(0);
        y.resolve(0, 999);
        Check.due("no payment of 0, a refund of 1", "2 0 1 0", Desks.entry(y, 1));
        Check.due("only that", 2, y.entries());
        y.dispute(1);
        y.resolve(1, 1000);
        Check.due("a payment of 1, no refund of 0", "1 0 1 1", Desks.entry(y, 2));
        Check.due("only this", 3, y.entries());
        EscrowDesk z = Desks.of("milestone a 1 1 when always;");
        z.pass(1);
        z.dispute(0);
        z.resolve(0, 500);
        Check.due("neither without money", 0, z.entries());
        EscrowDesk w = Desks.of("rate 3000 365; deposit 40;");
        w.pass(30);
        Check.due("no credit of 0", 1, w.entries());
        w.pass(30);
        Check.due("a credit of 1", "3 60 1 -1", Desks.entry(w, 1));
    }

    private static void ledgerParts() {
        Document.says("LEDGER", "Deposits of the text are recorded on day 0.");
        EscrowDesk x = Desks.of("deposit 5; milestone a 5 1 when approved; deposit 7;");
        Check.due("the first", "0 0 5 -1", Desks.entry(x, 0));
        Check.due("the second", "0 0 7 -1", Desks.entry(x, 1));
        Check.due("no others", 2, x.entries());
        x.pass(1);
        x.deposit(9);
        Check.due("others on their day", "0 1 9 -1", Desks.entry(x, 2));
        Document.says("LEDGER", "Each entry has a kind, a day, an amount and the number of the milestone (NONE for the kinds"
            + " 0, 3, 4, and for");
        EscrowDesk y = Desks.of("rate 3000 360; deposit 4000; milestone a 50 1 when approved; milestone b 50 1 when approved;");
        y.pass(30);
        y.payInterest(1);
        y.pay(1, 50);
        y.dispute(0);
        y.resolve(0, 0);
        y.close();
        String[] due = {"0 0 4000 -1", "3 30 100 -1", "4 30 1 -1", "1 30 50 1", "2 30 50 0", "2 30 3900 -1"};
        for (int entry = 0; entry < due.length; entry++) {
            Check.due("entry " + entry, due[entry], Desks.entry(y, entry));
        }
    }

    private static void keptEntries() {
        Document.says("LEDGER", "Only the latest 60 entries are kept.");
        EscrowDesk x = new EscrowDesk();
        for (int amount = 1; amount <= 200; amount++) {
            x.deposit(amount);
            Check.due("entries after " + amount, Math.min(amount, 60), x.entries());
            Check.due("the oldest after " + amount, Math.max(1, amount - 59), x.entry(0, 2));
            Check.due("the latest after " + amount, amount, x.entry(Math.min(amount, 60) - 1, 2));
        }
        x.undo();
        Check.due("undo brings back the one that was lost", 140, x.entry(0, 2));
        Check.due("still 60", 60, x.entries());
        // Two entries at once, of which the first is lost by the second.
        EscrowDesk y = Desks.of("deposit 100; milestone a 10 1 when approved;");
        for (int amount = 1; amount <= 58; amount++) {
            y.deposit(amount);
        }
        y.dispute(0);
        y.resolve(0, 500);
        Check.due("60 of 61", 60, y.entries());
        Check.due("the deposit of the text is lost", 1, y.entry(0, 2));
        Check.due("the payment", "1 0 5 0", Desks.entry(y, 58));
        Check.due("the refund", "2 0 5 0", Desks.entry(y, 59));
        y.undo();
        Check.due("undo takes both back", 59, y.entries());
        Check.due("and brings the lost one back", 100, y.entry(0, 2));
    }
}
