/** The clauses of the promises 42 to 55: the edits and undo. */
final class EditBoundaries {
    private static final int NONE = EscrowDesk.NONE;

    private EditBoundaries() {
    }

    static void run() {
        Check.parts(EditBoundaries::deposit, EditBoundaries::submit, EditBoundaries::approve, EditBoundaries::pay,
            EditBoundaries::payNotPossible, EditBoundaries::dispute, EditBoundaries::withdraw,
            EditBoundaries::resolve, EditBoundaries::cancel, EditBoundaries::payInterest, EditBoundaries::close,
            EditBoundaries::setRate, EditBoundaries::setGrace, EditBoundaries::pass, EditBoundaries::undo,
            EditBoundaries::manyCalls);
    }

    private static void deposit() {
        Document.says(42, "Deposits money.");
        EscrowDesk x = Desks.of("deposit 5; milestone a 5 1 when approved;");
        x.deposit(7);
        Check.due("deposited", 12, x.deposited());
        Check.due("available", 12, x.available());
        Check.due("recorded", "0 0 7 -1", Desks.entry(x, 1));
        Document.says(42, "Returns the principal then.");
        x.pay(0, 5);
        Check.due("without what was paid", 8, x.deposit(1));
        Document.says(42, "Throws `IllegalStateException` if the sum of all deposits would exceed 9999999");
        EscrowDesk y = new EscrowDesk();
        for (int deposits = 0; deposits < 100; deposits++) {
            y.deposit(99999);
        }
        String before = Story.now(y);
        Check.noState("9999900 and 100", () -> y.deposit(100));
        Check.noState("9999900 and 99999", () -> y.deposit(99999));
        Check.due("nothing changed", before, Story.now(y));
        Check.due("9999900 and 98", 9999998, y.deposit(98));
        Check.noState("9999998 and 2", () -> y.deposit(2));
        Check.due("9999998 and 1", 9999999, y.deposit(1));
        Check.noState("9999999 and 1", () -> y.deposit(1));
        Check.due("all of it", 9999999, y.deposited());
        y.close();
        Check.noState("what was refunded was deposited", () -> y.deposit(1));
        y.undo();
        y.undo();
        Check.due("what was undone was not", 9999999, y.deposit(1));
        EscrowDesk text = Desks.of("deposit 99999; deposit 99999;");
        for (int deposits = 2; deposits < 100; deposits++) {
            text.deposit(99999);
        }
        Check.noState("those of the text count", () -> text.deposit(100));
        Check.due("up to the limit", 9999999, text.deposit(99));
    }

    private static void submit() {
        EscrowDesk x = Desks.of("milestone a 1 1 when proof a or proof b or proof c or proof d or proof e or proof f or proof"
            + " g or proof h;");
        Document.says(43, "Returns whether it had not been submitted before.");
        for (int proof = 0; proof < 8; proof++) {
            Check.due("the first time", true, x.submit(proof));
            Check.due("the second time", false, x.submit(proof));
        }
        x.undo();
        Check.due("the third time", false, x.submit(7));
        x.undo();
        x.undo();
        Check.due("undone, then again", true, x.submit(7));
        Document.says(43, "Submits a proof.");
        EscrowDesk y = Desks.of("milestone a 1 1 when proof a; milestone b 1 1 when proof b;");
        y.submit(1);
        Check.due("this one", true, y.isSubmitted(1));
        Check.due("no other", false, y.isSubmitted(0));
        Check.due("nothing is due yet", 0, y.state(1));
        y.pass(1);
        Check.due("then it is", 1, y.state(1));
        Document.says(43, "Throws `IndexOutOfBoundsException` if there is no such proof");
        String before = Story.now(y);
        for (int no : new int[] {-1, 2, 3, 8, 31, 32, 33, Integer.MIN_VALUE, Integer.MAX_VALUE}) {
            Check.noIndex("proof " + no + " of 2", () -> y.submit(no) ? 1 : 0);
        }
        Check.noIndex("proof 8 of 8", () -> x.submit(8) ? 1 : 0);
        Check.noIndex("proof 0 of none", () -> new EscrowDesk().submit(0) ? 1 : 0);
        Check.due("nothing changed", before, Story.now(y));
        Check.due("no edit", 1, y.undo());
    }

    private static void approve() {
        Document.says(44, "Approves a milestone.");
        EscrowDesk x = Desks.of("milestone a 1 1 when approved; milestone b 1 1 when approved and day 2; milestone c 1 1 when"
            + " not approved;");
        x.approve(0);
        Check.due("this one", true, x.holds(0));
        Check.due("no other", true, x.holds(2));
        Check.due("not due before a day passes", 0, x.state(0));
        Document.says(44, "Returns whether its condition holds now.");
        Check.due("again", true, x.approve(0));
        Check.due("not before day 2", false, x.approve(1));
        x.pass(2);
        Check.due("on day 2", true, x.approve(1));
        Check.due("no more", false, x.approve(2));
        Document.says(44, "Throws `IllegalStateException` if it is closed");
        EscrowDesk y = TrialBoundaries.inAllStates();
        for (int milestone = 0; milestone < 6; milestone++) {
            int number = milestone;
            if (milestone < 3) {
                Check.due("state " + number, true, y.approve(number));
            } else {
                Check.noState("state " + number, () -> y.approve(number) ? 1 : 0);
            }
        }
    }

    private static void pay() {
        Document.says(45, "Makes a payment for an open or due milestone at once.");
        EscrowDesk x = TrialBoundaries.inAllStates();
        x.pay(0, 4);
        Check.due("an open one", 4, x.paid(0));
        Check.due("it stays open", 0, x.state(0));
        x.pay(1, 4);
        Check.due("a due one", 4, x.paid(1));
        Check.due("it stays due", 1, x.state(1));
        Check.due("recorded today", "1 1 4 1", Desks.entry(x, x.entries() - 1));
        x.pay(0, 6);
        x.pay(1, 6);
        Check.due("all of an open one", 3, x.state(0));
        Check.due("all of a due one", 3, x.state(1));
        Document.says(45, "Returns the fee.");
        EscrowDesk y = Desks.of("fee 2000; deposit 100; milestone a 60 1 when approved;");
        Check.due("none of 4", 0, y.pay(0, 4));
        Check.due("1 of 5", 1, y.pay(0, 5));
        Check.due("1 of 9", 1, y.pay(0, 9));
        Check.due("2 of 10", 2, y.pay(0, 10));
        Check.due("all together", 4, y.fees());
    }

    private static void payNotPossible() {
        Document.says(45, "Throws `IllegalStateException` if the milestone is disputed, or if amount is greater than the"
            + " available money");
        EscrowDesk x = Desks.of("deposit 50; milestone a 60 1 when approved; milestone b 20 1 when approved;");
        String before = Story.now(x);
        Check.noState("51 of 50", () -> x.pay(0, 51));
        Check.noState("60 of 50", () -> x.pay(0, 60));
        Check.due("nothing changed", before, Story.now(x));
        x.dispute(1);
        Check.noState("31 of 30", () -> x.pay(0, 31));
        Check.noState("disputed", () -> x.pay(1, 1));
        Check.noState("disputed, all of it", () -> x.pay(1, 20));
        x.pay(0, 30);
        Check.due("30 of 30", 30, x.paid(0));
        Check.noState("1 of 0", () -> x.pay(0, 1));
        x.withdraw(1);
        x.pay(1, 20);
        Check.due("not disputed any more", 3, x.state(1));
        EscrowDesk y = Desks.of("milestone a 60 1 when approved;");
        y.dispute(0);
        Check.noState("disputed and without money", () -> y.pay(0, 1));
        y.deposit(9);
        Check.noState("disputed with money", () -> y.pay(0, 1));
        EscrowDesk due = Desks.of("deposit 5; milestone a 60 1 when always;");
        due.pass(1);
        Check.noState("a due one without money", () -> due.pay(0, 1));
    }

    private static void dispute() {
        Document.says(46, "Disputes an open or due milestone.");
        EscrowDesk x = TrialBoundaries.inAllStates();
        x.dispute(0);
        Check.due("an open one", 2, x.state(0));
        x.dispute(1);
        Check.due("a due one", 2, x.state(1));
        Document.says(46, "The smaller one of its remaining amount and the available money is frozen.");
        for (int money = 38; money <= 42; money++) {
            EscrowDesk y = Desks.of("deposit " + money + "; milestone a 50 1 when approved;");
            y.pay(0, 10);
            y.deposit(10);
            Check.due(money + " for 40", Math.min(money, 40), y.dispute(0));
            Check.due(money + " for 40, frozen", Math.min(money, 40), y.frozen(0));
            Check.due(money + " for 40, available", Math.max(money - 40, 0), y.available());
        }
        EscrowDesk poor = Desks.of("milestone a 50 1 when approved;");
        Check.due("without money", 0, poor.dispute(0));
        Check.due("disputed all the same", 2, poor.state(0));
        poor.deposit(50);
        Check.due("a later deposit is not frozen", 50, poor.available());
        Document.says(46, "Returns the frozen amount.");
        EscrowDesk z = Desks.of("deposit 60; milestone a 50 1 when approved; milestone b 50 1 when approved; milestone c 50 1"
            + " when approved;");
        Check.due("all that remains", 50, z.dispute(0));
        Check.due("all that is available", 10, z.dispute(1));
        Check.due("nothing", 0, z.dispute(2));
        Document.says(46, "Throws `IllegalStateException` if it is neither open nor due");
        EscrowDesk w = TrialBoundaries.inAllStates();
        String before = Story.now(w);
        for (int milestone = 2; milestone < 6; milestone++) {
            int number = milestone;
            Check.noState("state " + number, () -> w.dispute(number));
        }
        Check.due("nothing changed", before, Story.now(w));
    }

    private static void withdraw() {
        EscrowDesk x = Desks.of("grace 60; deposit 100; milestone a 60 1 when always; milestone b 30 1 when approved;"
            + " milestone c 99 1 when always;");
        x.pass(1);
        x.dispute(0);
        x.dispute(1);
        x.dispute(2);
        Document.says(47, "Returns the available money then.");
        Check.due("60 are released", 60, x.withdraw(0));
        Check.due("10 are released", 70, x.withdraw(2));
        Document.says(47, "Withdraws a dispute: the milestone is open, nothing is frozen for it.");
        Check.due("open, though it was due", 0, x.state(0));
        Check.due("nothing is frozen", 0, x.frozen(0));
        Check.due("another one stays frozen", 30, x.frozen(1));
        x.pass(1);
        Check.due("due by the next day", 1, x.state(0));
        Check.due("since then", 2, x.dueDay(0));
        Document.says(47, "Throws `IllegalStateException` if it is not disputed");
        EscrowDesk y = TrialBoundaries.inAllStates();
        for (int milestone = 0; milestone < 6; milestone++) {
            int number = milestone;
            if (number != 2) {
                Check.noState("state " + number, () -> y.withdraw(number));
            }
        }
        Check.due("disputed", 80, y.withdraw(2));
        Check.noState("withdrawn", () -> y.withdraw(2));
    }

    private static void resolve() {
        String payment = "A payment of x * share / 1000, rounded down, is made for the milestone, then the rest of x is"
            + " refunded to the buyer.";
        Document.says(48, "Ends a dispute by a split.");
        EscrowDesk x = Desks.of("fee 2000; deposit 100; milestone a 99 1 when approved; milestone b 7 1 when approved;");
        x.dispute(0);
        x.dispute(1);
        Check.due("1 is frozen for b", 1, x.frozen(1));
        x.resolve(0, 333);
        Check.due("the other dispute goes on", 2, x.state(1));
        Document.says(48, payment);
        Check.due("99 * 333 / 1000", 32, x.paid(0));
        Check.due("of it the fee", 6, x.fees());
        Check.due("the rest of 99", 67, x.refunded());
        Check.due("the payment comes first", "1 0 32 0", Desks.entry(x, 1));
        Check.due("then the refund", "2 0 67 0", Desks.entry(x, 2));
        for (int share : new int[] {0, 10, 11, 500, 989, 990, 999, 1000}) {
            EscrowDesk y = Desks.of("deposit 99; milestone a 99 1 when approved;");
            y.dispute(0);
            Check.due("99 * " + share, 99 * share / 1000, y.resolve(0, share));
            Check.due("refund by " + share, 99 - 99 * share / 1000, y.refunded());
            Check.due("nothing is left", 0, y.principal());
        }
        Document.says(48, "The frozen amount is released;");
        Check.due("nothing is frozen for it", 0, x.frozen(0));
        Check.due("what is frozen for b stays", 1, x.frozen(1));
        Check.due("nothing is available", 0, x.available());
        Document.says(48, "x is the smaller one of the remaining amount and the available money then.");
        for (int more = 4; more <= 8; more++) {
            EscrowDesk y = Desks.of("deposit 100; milestone a 99 1 when approved; milestone b 7 1 when approved;");
            y.dispute(0);
            y.dispute(1);
            y.deposit(more);
            Check.due("1 was frozen and " + more + " came", Math.min(1 + more, 7), y.resolve(1, 1000));
            Check.due("what is frozen for a is not touched", 99, y.frozen(0));
        }
        EscrowDesk part = Desks.of("deposit 100; milestone a 99 1 when approved;");
        part.pay(0, 90);
        part.dispute(0);
        Check.due("9 remain", 9, part.resolve(0, 1000));
        EscrowDesk poor = Desks.of("milestone a 99 1 when approved;");
        poor.dispute(0);
        Check.due("no money", 0, poor.resolve(0, 1000));
        Document.says(48, "The milestone is settled.");
        Check.due("without money", 4, poor.state(0));
        Check.due("with a part", 4, x.state(0));
        Check.due("with all that remained", 4, part.state(0));
        Document.says(48, "Returns the payment.");
        EscrowDesk fee = Desks.of("fee 2000; deposit 100; milestone a 100 1 when approved;");
        fee.dispute(0);
        Check.due("the fee included", 50, fee.resolve(0, 500));
        Document.says(48, "Throws `IllegalStateException` if it is not disputed");
        EscrowDesk z = TrialBoundaries.inAllStates();
        for (int milestone = 0; milestone < 6; milestone++) {
            int number = milestone;
            if (number != 2) {
                Check.noState("state " + number, () -> z.resolve(number, 500));
                Check.noState("state " + number + ", nothing", () -> z.resolve(number, 0));
            }
        }
        Check.due("disputed", 5, z.resolve(2, 500));
        Check.noState("settled", () -> z.resolve(2, 500));
    }

    private static void cancel() {
        Document.says(49, "Cancels an open or due milestone.");
        EscrowDesk x = TrialBoundaries.inAllStates();
        int principal = x.principal();
        Document.says(49, "Returns the amount that remained.");
        Check.due("all of an open one", 10, x.cancel(0));
        x.pay(1, 9);
        Check.due("1 of a due one", 1, x.cancel(1));
        Document.says(49, "Cancels an open or due milestone.");
        Check.due("an open one", 5, x.state(0));
        Check.due("a due one", 5, x.state(1));
        Check.due("no money moves", principal - 9, x.principal());
        Check.due("what was paid stays", 9, x.paid(1));
        Document.says(49, "Throws `IllegalStateException` if it is neither open nor due");
        for (int milestone = 0; milestone < 6; milestone++) {
            int number = milestone;
            Check.noState("state " + x.state(number), () -> x.cancel(number));
        }
    }

    private static void payInterest() {
        EscrowDesk x = Desks.of("rate 3000 360; deposit 1000;");
        x.pass(30);
        Document.says(50, "Returns the interest pot then.");
        Check.due("25 without 1", 24, x.payInterest(1));
        Check.due("24 without 24", 0, x.payInterest(24));
        Document.says(50, "Pays interest from the pot to the buyer.");
        Check.due("the pot", 0, x.interestPot());
        Check.due("the principal stays", 1000, x.principal());
        Check.due("it is no refund", 0, x.refunded());
        Check.due("recorded", "4 30 24 -1", Desks.entry(x, 3));
    }

    private static void close() {
        EscrowDesk x = Desks.of("rate 3000 360; deposit 1000; milestone a 100 1 when always; milestone b 100 1 when approved;");
        x.pass(30);
        x.cancel(1);
        int pot = x.interestPot();
        Document.says(51, "Returns the amount.");
        Check.due("900", 900, x.close());
        Check.due("nothing the second time", 0, x.close());
        Document.says(51, "Refunds the whole principal to the buyer.");
        Check.due("the principal", 0, x.principal());
        Check.due("refunded", 900, x.refunded());
        Check.due("the pot stays", pot, x.interestPot());
        Check.due("recorded once", "2 30 900 -1", Desks.entry(x, x.entries() - 1));
        x.deposit(5);
        Check.due("a later deposit", 5, x.close());
        Document.says(51, "Throws `IllegalStateException` if a milestone is not closed");
        EscrowDesk y = TrialBoundaries.inAllStates();
        String before = Story.now(y);
        Check.noState("open, due and disputed ones", () -> y.close());
        Check.due("nothing changed", before, Story.now(y));
        y.cancel(0);
        y.cancel(1);
        Check.noState("a disputed one", () -> y.close());
        y.withdraw(2);
        Check.noState("an open one", () -> y.close());
        y.pass(1);
        Check.noState("a due one", () -> y.close());
        y.cancel(2);
        Check.due("none", 80, y.close());
        Check.due("no milestones at all", 5, Desks.of("deposit 5;").close());
    }

    private static void setRate() {
        EscrowDesk x = Desks.of("rate 7 365; deposit 1000;");
        Document.says(52, "Returns the previous rate.");
        Check.due("of the text", 7, x.setRate(3000, 360));
        Check.due("of the last call", 3000, x.setRate(0, 360));
        Check.due("none", 0, x.setRate(3000, 360));
        Document.says(52, "Sets the rate and the basis;");
        x.pass(30);
        Check.due("the rate and the basis count", 25, x.credited());
        x.undo();
        x.setRate(3000, 365);
        x.pass(30);
        Check.due("the other basis", 24, x.credited());
        Document.says(52, "the accrued parts stay as they are.");
        EscrowDesk y = Desks.of("rate 3000 365; deposit 1000;");
        y.pass(29);
        y.setRate(0, 360);
        Check.due("87000000 parts", 87000000, y.accruedParts());
        y.pass(1);
        Check.due("the new basis divides them", 24, y.credited());
        Check.due("the rest of them", 87000000 - 24 * 3600000, y.accruedParts());
    }

    private static void setGrace() {
        EscrowDesk x = Desks.of("grace 7; deposit 9; milestone a 9 1 when day 1;");
        Document.says(53, "Returns the previous grace period.");
        Check.due("of the text", 7, x.setGrace(60));
        Check.due("of the last call", 60, x.setGrace(0));
        Check.due("none", 0, x.setGrace(5));
        Document.says(53, "Sets the grace period.");
        x.pass(5);
        Check.due("5 days: not on day 5", 0, x.paid(0));
        x.pass(1);
        Check.due("on day 6", 9, x.paid(0));
        x.undo();
        x.undo();
        x.pass(1);
        x.setGrace(2);
        Check.due("also of a due one", 2, x.graceLeft(0));
        x.pass(1);
        Check.due("not on day 2", 0, x.paid(0));
        x.pass(1);
        Check.due("on day 3", 9, x.paid(0));
        Check.due("no payment by setGrace() itself", 3, x.entry(1, 1));
    }

    private static void pass() {
        Document.says(54, "Lets days pass.");
        String text = "rate 3000 360; fee 900; grace 2; deposit 900; milestone a 300 5 when day 7; milestone b 400 1 when done"
            + " a; milestone c 500 9 when sum 600;";
        for (int days : new int[] {1, 2, 29, 30, 31, 60, 119, 120}) {
            EscrowDesk x = Desks.of(text);
            EscrowDesk single = Desks.of(text);
            x.pass(days);
            for (int day = 0; day < days; day++) {
                single.pass(1);
            }
            Check.due(days + " days at once and one by one", Story.now(single), Story.now(x));
            Check.due(days + " days are one edit", 0, x.undo());
        }
        Document.says(54, "Returns the sum of all payments (fees included) on these days.");
        EscrowDesk x = Desks.of(text);
        x.pay(0, 100);
        Check.due("none, though something was paid before", 0, x.pass(8));
        Check.due("200 on day 9", 200, x.pass(1));
        Check.due("600 in the next days", 600, x.pass(9));
        Check.due("none", 0, x.pass(1));
        Document.says(54, "Throws `IllegalStateException` if the present day would be later than 9999");
        EscrowDesk late = new EscrowDesk();
        for (int passes = 0; passes < 82; passes++) {
            late.pass(120);
        }
        late.pass(40);
        Check.due("day 9880", 9880, late.day());
        String before = Story.now(late);
        Check.noState("10000", () -> late.pass(120));
        Check.due("nothing changed", before, Story.now(late));
        Check.due("9999", 0, late.pass(119));
        Check.due("the last day", 9999, late.day());
        for (int days : new int[] {1, 2, 119, 120}) {
            Check.noState("beyond it by " + days, () -> late.pass(days));
        }
        Check.due("still the last day", 9999, late.day());
        late.undo();
        late.pass(118);
        Check.noState("9998 and 2", () -> late.pass(2));
        Check.due("9998 and 1", 0, late.pass(1));
    }

    private static void undo() {
        EscrowDesk x = new EscrowDesk();
        x.deposit(1);
        x.deposit(20);
        x.deposit(300);
        Document.says(55, "@return the number of edits that can still be undone;");
        Check.due("two", 2, x.undo());
        Document.says(55, "Undoes the latest edit that is not undone yet.");
        Check.due("the third is undone", 21, x.principal());
        x.deposit(4000);
        Check.due("the fourth", 2, x.undo());
        Check.due("is undone", 21, x.principal());
        x.undo();
        Check.due("then the second, the third not again", 1, x.principal());
        Document.says(55, "@return the number of edits that can still be undone;");
        Check.due("none", 0, x.undo());
        Document.says(55, "NONE if there is none");
        Check.due("nothing was left to undo", NONE, x.undo());
        Check.due("still nothing", NONE, x.undo());
        Check.due("nothing changed", 0, x.principal());
        Check.due("a new object", NONE, new EscrowDesk().undo());
        Check.due("a text", NONE, Desks.of("deposit 5; milestone a 5 1 when always;").undo());
        x.deposit(1);
        Check.due("a new edit", 0, x.undo());
        for (int amount = 1; amount <= 10; amount++) {
            x.deposit(amount);
        }
        Check.due("nine of ten", 9, x.undo());
        x.deposit(10);
        x.deposit(11);
        Check.due("nine of eleven", 9, x.undo());
    }

    /** An object answers rightly up to its 512th call. */
    private static void manyCalls() {
        Document.says(55, "@return the number of edits that can still be undone;");
        EscrowDesk x = new EscrowDesk();
        for (int call = 1; call <= 502; call++) {
            x.deposit(1 + call % 7);
        }
        for (int left = 9; left >= 0; left--) {
            Check.due("call " + (512 - left), left, x.undo());
        }
        Check.due("60 entries", 60, x.entries());
        Check.due("the latest of 492 deposits", 1 + 492 % 7, x.entry(59, 2));
        Check.due("the oldest that is kept", 1 + 433 % 7, x.entry(0, 2));
    }
}
