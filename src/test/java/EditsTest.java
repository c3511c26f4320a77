/** Promises 42 to 55: the edits and undo. */
final class EditsTest {
    private static final String TWO = "deposit 100; fee 1000; milestone a 60 1 when approved; milestone b 80 1 when proof p;";
    private static final int[] NO_SUCH = {-1, 2, 10, Integer.MIN_VALUE, Integer.MAX_VALUE};

    public static void main(String[] args) {
        Check.parts(EditsTest::wrongIndices, EditsTest::deposit, EditsTest::submit, EditsTest::approve,
            EditsTest::pay, EditsTest::dispute, EditsTest::withdraw, EditsTest::resolve, EditsTest::cancel,
            EditsTest::payInterest, EditsTest::close, EditsTest::setRate, EditsTest::setGrace, EditsTest::pass,
            EditsTest::undoOfEach, EditsTest::undoAtMostTen, EditsTest::undoOfTheLedger,
            EditsTest::throwsAreNoEdits);
        Check.end("EditsTest");
    }

    private static void wrongIndices() {
        EscrowDesk x = Desks.of(TWO);
        for (int no : NO_SUCH) {
            Check.noIndex("submit", () -> x.submit(no) ? 1 : 0);
            Check.noIndex("approve", () -> x.approve(no) ? 1 : 0);
            Check.noIndex("pay", () -> x.pay(no, 1));
            Check.noIndex("pay with a wrong amount", () -> x.pay(no, 0));
            Check.noIndex("dispute", () -> x.dispute(no));
            Check.noIndex("withdraw", () -> x.withdraw(no));
            Check.noIndex("resolve", () -> x.resolve(no, 1));
            Check.noIndex("resolve with a wrong share", () -> x.resolve(no, -1));
            Check.noIndex("cancel", () -> x.cancel(no));
        }
        Check.noIndex("submit of a second proof", () -> x.submit(1) ? 1 : 0);
        Check.due("none of these was an edit", EscrowDesk.NONE, x.undo());
    }

    private static void deposit() {
        EscrowDesk x = Desks.of("deposit 100; milestone a 70 1 when approved;");
        Check.due("principal then", 107, x.deposit(7));
        x.pay(0, 70);
        Check.due("principal after a payment", 38, x.deposit(1));
        Check.due("deposited", 108, x.deposited());
        for (int amount : new int[] {0, -1, 100000, Integer.MIN_VALUE, Integer.MAX_VALUE}) {
            Check.noArgument("amount " + amount, () -> x.deposit(amount));
        }
        EscrowDesk y = new EscrowDesk();
        for (int deposits = 0; deposits < 100; deposits++) {
            y.deposit(99999);
        }
        Check.noState("10000000 in all", () -> y.deposit(100));
        Check.due("9999999 in all", 9999999, y.deposit(99));
        Check.noState("one more", () -> y.deposit(1));
        Check.noArgument("the range comes first", () -> y.deposit(0));
        y.close();
        Check.noState("refunds make no room", () -> y.deposit(1));
    }

    private static void submit() {
        EscrowDesk x = Desks.of(TWO);
        Check.due("new", true, x.submit(0));
        Check.due("again", false, x.submit(0));
        Check.due("submitted", true, x.isSubmitted(0));
        Check.due("not due before a day passes", 0, x.state(1));
        Check.due("undo of the second", 1, x.undo());
        Check.due("still submitted", true, x.isSubmitted(0));
        Check.due("undo of the first", 0, x.undo());
        Check.due("not submitted", false, x.isSubmitted(0));
    }

    private static void approve() {
        EscrowDesk x = Desks.of(TWO + "milestone c 5 1 when approved and day 4;");
        Check.due("holds now", true, x.approve(0));
        Check.due("does not hold", false, x.approve(1));
        Check.due("not yet", false, x.approve(2));
        Check.due("not due before a day passes", 0, x.state(0));
        Check.due("approved twice", true, x.approve(0));
        x.dispute(1);
        Check.due("a disputed one", false, x.approve(1));
        x.resolve(1, 0);
        Check.noState("a settled one", () -> x.approve(1) ? 1 : 0);
        x.cancel(2);
        Check.noState("a cancelled one", () -> x.approve(2) ? 1 : 0);
        x.deposit(100);
        x.pay(0, 60);
        Check.noState("a paid one", () -> x.approve(0) ? 1 : 0);
    }

    private static void pay() {
        EscrowDesk x = Desks.of(TWO);
        Check.due("fee", 1, x.pay(0, 19));
        Check.due("principal", 81, x.principal());
        Check.due("received", 18, x.received());
        Check.due("paid", 19, x.paid(0));
        Check.noArgument("0", () -> x.pay(0, 0));
        Check.noArgument("-1", () -> x.pay(0, -1));
        Check.noArgument("more than remains", () -> x.pay(0, 42));
        Check.noArgument("far more", () -> x.pay(0, Integer.MAX_VALUE));
        Check.due("all that remains", 4, x.pay(0, 41));
        Check.due("paid at last", 3, x.state(0));
        Check.noArgument("of a paid one nothing remains", () -> x.pay(0, 1));
        Check.noState("more than is available", () -> x.pay(1, 41));
        Check.due("all that is available", 4, x.pay(1, 40));
        Check.noState("nothing is available", () -> x.pay(1, 1));
        x.dispute(1);
        Check.noState("disputed", () -> x.pay(1, 1));
        Check.noArgument("the amount of a disputed one comes first", () -> x.pay(1, 41));
        x.withdraw(1);
        x.deposit(40);
        x.cancel(1);
        Check.noArgument("of a cancelled one nothing remains", () -> x.pay(1, 1));
        EscrowDesk y = Desks.of("deposit 10; milestone a 6 1 when approved; milestone b 9 1 when approved;");
        y.dispute(0);
        Check.noState("frozen money is not available", () -> y.pay(1, 5));
        Check.due("what is not frozen is", 0, y.pay(1, 4));
        Check.due("the ledger has it", "1 0 4 1", Desks.entry(y, 1));
        EscrowDesk z = Desks.of("deposit 99999; fee 2000; milestone a 99999 1 when approved;");
        Check.due("the greatest fee", 19999, z.pay(0, 99999));
        Check.due("the rest", 80000, z.received());
        EscrowDesk w = Desks.of("deposit 99999; fee 1; milestone a 99999 1 when approved;");
        Check.due("no fee below 10000", 0, w.pay(0, 9999));
        Check.due("a fee from 10000 on", 1, w.pay(0, 10000));
    }

    private static void dispute() {
        EscrowDesk x = Desks.of("deposit 100; milestone a 60 1 when always; milestone b 80 1 when approved;"
            + "milestone c 9 1 when approved; grace 3;");
        x.pass(1);
        Check.due("a due one", 60, x.dispute(0));
        Check.noState("a disputed one", () -> x.dispute(0));
        x.pay(1, 10);
        Check.due("what is available", 30, x.dispute(1));
        Check.due("nothing is available", 0, x.dispute(2));
        Check.due("disputed with nothing frozen", 2, x.state(2));
        x.resolve(0, 1000);
        Check.noState("a settled one", () -> x.dispute(0));
        x.withdraw(2);
        x.cancel(2);
        Check.noState("a cancelled one", () -> x.dispute(2));
        EscrowDesk y = Desks.of("deposit 100; milestone a 60 1 when always;");
        y.pass(1);
        Check.noState("a paid one", () -> y.dispute(0));
        EscrowDesk z = Desks.of("deposit 100; milestone a 60 1 when always;");
        z.pay(0, 20);
        Check.due("what remains", 40, z.dispute(0));
        z.pass(9);
        Check.due("frozen: no day pays it", 2, z.state(0));
    }

    private static void withdraw() {
        EscrowDesk x = Desks.of("deposit 100; milestone a 60 1 when always; milestone b 30 1 when approved; grace 3;");
        Check.noState("an open one", () -> x.withdraw(0));
        x.pass(1);
        Check.noState("a due one", () -> x.withdraw(0));
        x.dispute(0);
        x.dispute(1);
        Check.due("available then", 70, x.withdraw(0));
        Check.due("open, though it was due", 0, x.state(0));
        Check.due("nothing is frozen", 0, x.frozen(0));
        Check.due("the other is frozen", 30, x.frozen(1));
        x.pass(1);
        Check.due("due again", 1, x.state(0));
        Check.due("since today", 2, x.dueDay(0));
        Check.due("not paid before a new grace period", 0, x.pass(2));
        Check.due("paid then", 60, x.pass(1));
    }

    private static void resolve() {
        EscrowDesk x = Desks.of(TWO);
        for (int share : new int[] {-1, 1001, Integer.MIN_VALUE, Integer.MAX_VALUE}) {
            Check.noArgument("share " + share, () -> x.resolve(0, share));
        }
        Check.noState("an open one", () -> x.resolve(0, 500));
        x.dispute(0);
        x.dispute(1);
        Check.due("frozen for b", 40, x.frozen(1));
        Check.due("payment", 39, x.resolve(0, 666));
        Check.due("refunded", 21, x.refunded());
        Check.due("fee", 3, x.fees());
        Check.due("received", 36, x.received());
        Check.due("principal", 40, x.principal());
        Check.due("available", 0, x.available());
        Check.due("settled", 4, x.state(0));
        Check.due("payment first", "1 0 39 0", Desks.entry(x, 1));
        Check.due("then the refund", "2 0 21 0", Desks.entry(x, 2));
        x.deposit(100);
        Check.due("the remaining amount, which is more than was frozen", 80, x.resolve(1, 1000));
        Check.due("no refund of nothing", 5, x.entries());
        Check.due("principal then", 60, x.principal());
        EscrowDesk y = Desks.of(TWO);
        y.dispute(0);
        Check.due("no payment", 0, y.resolve(0, 0));
        Check.due("only a refund", "2 0 60 0", Desks.entry(y, 1));
        Check.due("two entries", 2, y.entries());
        Check.due("settled without a payment", 4, y.state(0));
        Check.noState("a settled one", () -> y.resolve(0, 0));
        EscrowDesk z = Desks.of("milestone a 60 1 when always;");
        z.dispute(0);
        Check.due("without money", 0, z.resolve(0, 1000));
        Check.due("settled without money", 4, z.state(0));
    }

    private static void cancel() {
        EscrowDesk x = Desks.of("deposit 100; milestone a 60 1 when always; milestone b 80 1 when approved;"
            + "milestone c 9 1 when approved; grace 3;");
        x.pass(1);
        x.pay(0, 10);
        Check.due("a due one", 50, x.cancel(0));
        Check.due("an open one", 80, x.cancel(1));
        Check.noState("a cancelled one", () -> x.cancel(1));
        x.dispute(2);
        Check.noState("a disputed one", () -> x.cancel(2));
        x.resolve(2, 1);
        Check.noState("a settled one", () -> x.cancel(2));
        Check.due("no money moves but the refund of the split", 81, x.principal());
        Check.due("no day pays it", 0, x.pass(9));
        EscrowDesk y = Desks.of("deposit 100; milestone a 60 1 when always;");
        y.pass(1);
        Check.noState("a paid one", () -> y.cancel(0));
    }

    private static void payInterest() {
        EscrowDesk x = Desks.of("rate 3000 360; deposit 1000;");
        Check.noArgument("an empty pot", () -> x.payInterest(1));
        x.pass(30);
        Check.noArgument("0", () -> x.payInterest(0));
        Check.noArgument("-1", () -> x.payInterest(-1));
        Check.noArgument("min", () -> x.payInterest(Integer.MIN_VALUE));
        Check.noArgument("more than the pot", () -> x.payInterest(26));
        Check.due("a part", 15, x.payInterest(10));
        Check.due("the rest", 0, x.payInterest(15));
        Check.due("the ledger has it", "4 30 10 -1", Desks.entry(x, 2));
        Check.due("principal stays", 1000, x.principal());
        Check.due("no refund", 0, x.refunded());
    }

    private static void close() {
        EscrowDesk x = Desks.of("rate 3000 360; deposit 1000; milestone a 60 1 when approved;");
        Check.noState("an open one", () -> x.close());
        x.dispute(0);
        Check.noState("a disputed one", () -> x.close());
        x.pass(30);
        x.resolve(0, 500);
        Check.due("all", 940, x.close());
        Check.due("nothing is left", 0, x.principal());
        Check.due("the pot stays", 25, x.interestPot());
        Check.due("refunded", 970, x.refunded());
        Check.due("the ledger has it", "2 30 940 -1", Desks.entry(x, 4));
        Check.due("again", 0, x.close());
        Check.due("no entry of nothing", 5, x.entries());
        Check.due("both can be undone", 4, x.undo());
        Check.due("the first one, too", 3, x.undo());
        Check.due("principal again", 940, x.principal());
        EscrowDesk y = Desks.of("deposit 5; milestone a 60 1 when always;");
        y.pass(1);
        Check.noState("a due one", () -> y.close());
        Check.due("without milestones", 5, Desks.of("deposit 5;").close());
        Check.due("a new object", 0, new EscrowDesk().close());
    }

    private static void setRate() {
        EscrowDesk x = Desks.of("rate 77 360; deposit 1000;");
        for (int rate : new int[] {-1, 3001, Integer.MIN_VALUE, Integer.MAX_VALUE}) {
            Check.noArgument("rate " + rate, () -> x.setRate(rate, 360));
        }
        for (int basis : new int[] {0, 359, 361, 364, 366, -360, Integer.MIN_VALUE, Integer.MAX_VALUE}) {
            Check.noArgument("basis " + basis, () -> x.setRate(5, basis));
        }
        Check.due("previous", 77, x.setRate(3000, 365));
        x.pass(29);
        Check.due("previous then", 3000, x.setRate(0, 360));
        Check.due("the parts stay", 87000000L, x.accruedParts());
        x.pass(1);
        Check.due("the new basis divides", 24, x.credited());
        Check.due("previous at last", 0, x.setRate(3000, 360));
    }

    private static void setGrace() {
        EscrowDesk x = Desks.of("grace 7;");
        for (int days : new int[] {-1, 61, Integer.MIN_VALUE, Integer.MAX_VALUE}) {
            Check.noArgument("days " + days, () -> x.setGrace(days));
        }
        Check.due("previous", 7, x.setGrace(60));
        Check.due("previous then", 60, x.setGrace(0));
        Check.due("previous at last", 0, x.setGrace(0));
        Check.due("an edit that changed nothing", 2, x.undo());
    }

    private static void pass() {
        EscrowDesk x = Desks.of("fee 1000; deposit 100; milestone a 60 1 when day 2; milestone b 50 1 when day 4;");
        for (int days : new int[] {0, -1, 121, Integer.MIN_VALUE, Integer.MAX_VALUE}) {
            Check.noArgument("days " + days, () -> x.pass(days));
        }
        Check.due("a day", 0, x.pass(1));
        Check.due("three days, fees included", 100, x.pass(3));
        Check.due("only those days count", 0, x.pass(120));
        Check.due("day", 124, x.day());
        for (int times = 0; times < 82; times++) {
            x.pass(120);
        }
        Check.due("day then", 9964, x.day());
        Check.noState("beyond the last day", () -> x.pass(36));
        Check.noArgument("the range comes first", () -> x.pass(121));
        Check.due("to the last day", 0, x.pass(35));
        Check.due("the last day", 9999, x.day());
        Check.noState("no day more", () -> x.pass(1));
    }

    /** All that a desk tells, as one text. */
    private static String all(EscrowDesk x) {
        StringBuilder all = new StringBuilder();
        all.append(x.day()).append(' ').append(x.deposited()).append(' ').append(x.principal()).append(' ');
        all.append(x.available()).append(' ').append(x.interestPot()).append(' ').append(x.credited()).append(' ');
        all.append(x.accruedParts()).append(' ').append(x.received()).append(' ').append(x.fees()).append(' ');
        all.append(x.refunded()).append(' ').append(x.creditedAfter(120)).append(' ').append(x.paymentsAfter(120));
        for (int milestone = 0; milestone < x.milestones(); milestone++) {
            all.append('\n').append(Desks.line(x, milestone)).append(' ').append(x.dueDay(milestone)).append(' ');
            all.append(x.frozen(milestone)).append(' ').append(x.holds(milestone)).append(' ');
            all.append(x.graceLeft(milestone));
        }
        for (int proof = 0; proof < x.proofs(); proof++) {
            all.append(x.isSubmitted(proof) ? " +" : " -");
        }
        for (int entry = 0; entry < x.entries(); entry++) {
            all.append('\n').append(Desks.entry(x, entry));
        }
        return all.toString();
    }

    private static void undoes(String edit, EscrowDesk x, Check.Call call) {
        String before = all(x);
        call.answer();
        boolean changed = !before.equals(all(x));
        Check.due(edit + " changed something", true, changed);
        x.undo();
        Check.due(edit + " undone", before, all(x));
        call.answer();
    }

    private static void undoOfEach() {
        EscrowDesk x = Desks.of("rate 3000 360; fee 500; grace 2; deposit 9000; milestone a 60 1 when proof p;"
            + "milestone b 80 1 when approved; milestone c 90 1 when day 70; milestone d 10 1 when approved;");
        undoes("pass", x, () -> x.pass(30));
        undoes("deposit", x, () -> x.deposit(7));
        undoes("submit", x, () -> x.submit(0) ? 1 : 0);
        undoes("pass to a due day", x, () -> x.pass(1));
        undoes("pass to a payment", x, () -> x.pass(2));
        undoes("approve", x, () -> x.approve(1) ? 1 : 0);
        undoes("pay", x, () -> x.pay(1, 33));
        undoes("dispute", x, () -> x.dispute(1));
        undoes("withdraw", x, () -> x.withdraw(1));
        undoes("dispute again", x, () -> x.dispute(1));
        undoes("resolve", x, () -> x.resolve(1, 333));
        undoes("cancel", x, () -> x.cancel(3));
        undoes("payInterest", x, () -> x.payInterest(9));
        undoes("setGrace", x, () -> x.setGrace(50));
        undoes("setRate", x, () -> x.setRate(100, 360));
        undoes("setRate by the basis", x, () -> x.setRate(100, 365));
        undoes("pass for long", x, () -> x.pass(120));
        undoes("close", x, () -> x.close());
    }

    private static void undoAtMostTen() {
        EscrowDesk x = new EscrowDesk();
        Check.due("none", EscrowDesk.NONE, x.undo());
        for (int amount = 1; amount <= 12; amount++) {
            x.deposit(amount);
        }
        for (int left = 9; left >= 0; left--) {
            Check.due("left", left, x.undo());
        }
        Check.due("none is left", EscrowDesk.NONE, x.undo());
        Check.due("two are not undone", 3, x.principal());
        x.deposit(50);
        x.deposit(60);
        Check.due("one is left", 1, x.undo());
        x.setGrace(5);
        Check.due("one is left again", 1, x.undo());
        Check.due("principal", 53, x.principal());
        Check.due("load", 0, x.load(0));
        Check.due("load forgets all", EscrowDesk.NONE, x.undo());
        x.deposit(5);
        Check.due("a new edit", 0, x.undo());
    }

    private static void undoOfTheLedger() {
        EscrowDesk x = new EscrowDesk();
        for (int amount = 1; amount <= 65; amount++) {
            x.deposit(amount);
        }
        Check.due("60 entries", 60, x.entries());
        Check.due("the oldest", "0 0 6 -1", Desks.entry(x, 0));
        for (int times = 0; times < 7; times++) {
            x.undo();
        }
        Check.due("58 entries are not enough: the lost ones came back", 58, x.entries());
        Check.due("the oldest then", "0 0 1 -1", Desks.entry(x, 0));
        Check.due("the newest then", "0 0 58 -1", Desks.entry(x, 57));
    }

    private static void throwsAreNoEdits() {
        EscrowDesk x = Desks.of(TWO);
        x.deposit(1);
        String before = all(x);
        Check.outcome(() -> x.deposit(0));
        Check.outcome(() -> x.submit(9) ? 1 : 0);
        Check.outcome(() -> x.approve(9) ? 1 : 0);
        Check.outcome(() -> x.pay(0, 61));
        Check.outcome(() -> x.dispute(9));
        Check.outcome(() -> x.withdraw(0));
        Check.outcome(() -> x.resolve(0, 5));
        Check.outcome(() -> x.cancel(-1));
        Check.outcome(() -> x.payInterest(1));
        Check.outcome(() -> x.close());
        Check.outcome(() -> x.setRate(5, 5));
        Check.outcome(() -> x.setGrace(99));
        Check.outcome(() -> x.pass(0));
        Check.due("nothing changed", before, all(x));
        Check.due("only the deposit can be undone", 0, x.undo());
    }
}
