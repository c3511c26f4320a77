/** Promises 35 to 41: the trials on a copy of the account. */
final class TrialsTest {
    public static void main(String[] args) {
        Check.parts(TrialsTest::ranges, TrialsTest::paymentsAhead, TrialsTest::creditsAhead,
            TrialsTest::daysUntilClosed, TrialsTest::splits, TrialsTest::shares, TrialsTest::shortDays,
            TrialsTest::trialsChangeNothing, TrialsTest::trialsBeyondTheLastDay);
        Check.end("TrialsTest");
    }

    private static void ranges() {
        EscrowDesk x = Desks.of("deposit 5; milestone a 5 1 when approved;");
        for (int days : new int[] {0, 121, -1, Integer.MIN_VALUE, Integer.MAX_VALUE}) {
            Check.noArgument("paymentsAfter", () -> x.paymentsAfter(days));
            Check.noArgument("creditedAfter", () -> x.creditedAfter(days));
            Check.noArgument("shortDay", () -> x.shortDay(days));
            Check.noArgument("paidAfter", () -> x.paidAfter(0, days));
            Check.noIndex("paidAfter of none", () -> x.paidAfter(1, days));
        }
        for (int no : new int[] {-1, 1, 10, Integer.MIN_VALUE, Integer.MAX_VALUE}) {
            Check.noIndex("paidAfter", () -> x.paidAfter(no, 1));
            Check.noIndex("daysUntilClosed", () -> x.daysUntilClosed(no));
            Check.noIndex("splitPayment", () -> x.splitPayment(no, 1));
            Check.noIndex("splitPayment with a wrong share", () -> x.splitPayment(no, 1001));
            Check.noIndex("shareFor", () -> x.shareFor(no, 1));
            Check.noIndex("shareFor with a wrong amount", () -> x.shareFor(no, -1));
        }
        Check.noState("splitPayment of an open one", () -> x.splitPayment(0, 1));
        Check.noState("shareFor of an open one", () -> x.shareFor(0, 1));
        for (int share : new int[] {-1, 1001, Integer.MIN_VALUE, Integer.MAX_VALUE}) {
            Check.noArgument("share out of range before the state", () -> x.splitPayment(0, share));
        }
        for (int amount : new int[] {-1, 100000, Integer.MIN_VALUE, Integer.MAX_VALUE}) {
            Check.noArgument("amount out of range before the state", () -> x.shareFor(0, amount));
        }
        Check.due("days 1", 0, x.paymentsAfter(1));
        Check.due("days 120", 0, x.paymentsAfter(120));
        Check.due("days 1 of a milestone", 0, x.paidAfter(0, 1));
        Check.due("days 120 of a milestone", 0, x.paidAfter(0, 120));
        Check.due("days 1 of the credits", 0, x.creditedAfter(1));
        Check.due("days 120 of the credits", 0, x.creditedAfter(120));
        Check.due("days 1 of shortDay", EscrowDesk.NONE, x.shortDay(1));
        Check.due("days 120 of shortDay", EscrowDesk.NONE, x.shortDay(120));
    }

    private static void paymentsAhead() {
        EscrowDesk x = Desks.of("deposit 100; milestone a 30 1 when day 3; milestone b 50 1 when done a;"
            + "milestone c 50 9 when done a; fee 1000;");
        Check.due("two days", 0, x.paymentsAfter(2));
        Check.due("three days", 30, x.paymentsAfter(3));
        Check.due("four days, fees included", 100, x.paymentsAfter(4));
        Check.due("b after four days", 50, x.paidAfter(1, 4));
        Check.due("c after four days", 20, x.paidAfter(2, 4));
        Check.due("c after 120 days", 20, x.paidAfter(2, 120));
        x.pass(3);
        Check.due("the sum of all payments, those before, too", 100, x.paymentsAfter(1));
        Check.due("a, which was paid before", 30, x.paidAfter(0, 1));
    }

    private static void creditsAhead() {
        EscrowDesk x = Desks.of("rate 3000 360; deposit 1000;");
        Check.due("29 days", 0, x.creditedAfter(29));
        Check.due("30 days", 25, x.creditedAfter(30));
        Check.due("60 days", 50, x.creditedAfter(60));
        x.pass(30);
        x.payInterest(25);
        Check.due("the credits before count, payouts do not", 50, x.creditedAfter(30));
    }

    private static void daysUntilClosed() {
        EscrowDesk x = Desks.of("deposit 100; grace 1; milestone a 30 1 when day 3; milestone b 90 1 when day 119;"
            + "milestone c 5 1 when day 120; milestone d 5 0 when day 119; milestone e 1 1 when approved;");
        Check.due("a", 4, x.daysUntilClosed(0));
        Check.due("b, which money does not suffice for", EscrowDesk.NONE, x.daysUntilClosed(1));
        Check.due("c a day too late", EscrowDesk.NONE, x.daysUntilClosed(2));
        Check.due("d at the last day", 120, x.daysUntilClosed(3));
        x.pass(1);
        Check.due("a a day later", 3, x.daysUntilClosed(0));
        x.cancel(4);
        Check.due("closed already", 0, x.daysUntilClosed(4));
        x.dispute(0);
        Check.due("a dispute does not end by itself", EscrowDesk.NONE, x.daysUntilClosed(0));
    }

    private static void splits() {
        EscrowDesk x = Desks.of("deposit 100; milestone a 70 1 when approved; milestone b 99 1 when approved;");
        x.dispute(1);
        Check.due("all", 99, x.splitPayment(1, 1000));
        Check.due("nothing", 0, x.splitPayment(1, 0));
        Check.due("rounded down", 32, x.splitPayment(1, 333));
        x.dispute(0);
        Check.due("frozen for a", 1, x.frozen(0));
        Check.due("only the available money", 1, x.splitPayment(0, 1000));
        x.deposit(50);
        Check.due("more money is available now", 51, x.splitPayment(0, 1000));
        x.deposit(50);
        Check.due("at most what remains", 70, x.splitPayment(0, 1000));
        Check.due("as resolve", 34, x.splitPayment(0, 499));
        Check.due("resolve", 34, x.resolve(0, 499));
        Check.noState("a settled one", () -> x.splitPayment(0, 499));
        EscrowDesk y = Desks.of("deposit 99999; milestone a 99999 1 when approved;");
        y.dispute(0);
        Check.due("the largest amount", 99999, y.splitPayment(0, 1000));
        Check.due("the largest amount but a thousandth", 99899, y.splitPayment(0, 999));
    }

    private static void shares() {
        EscrowDesk x = Desks.of("deposit 300; fee 100; milestone a 300 1 when approved; milestone b 7 1 when approved;");
        x.dispute(0);
        Check.due("0 needs no share", 0, x.shareFor(0, 0));
        Check.due("1 is paid from 4 thousandths", 4, x.shareFor(0, 1));
        Check.due("99 without the fee", 330, x.shareFor(0, 99));
        Check.due("100 needs 101", 337, x.shareFor(0, 100));
        Check.due("297 from 299: the fee is rounded down", 997, x.shareFor(0, 297));
        Check.due("298 are too much", EscrowDesk.NONE, x.shareFor(0, 298));
        Check.due("far too much", EscrowDesk.NONE, x.shareFor(0, 99999));
        x.dispute(1);
        Check.due("no money for b", EscrowDesk.NONE, x.shareFor(1, 1));
        Check.due("no money needed", 0, x.shareFor(1, 0));
        EscrowDesk y = Desks.of("deposit 300; milestone a 300 1 when approved;");
        y.dispute(0);
        Check.due("all of it needs the whole share", 1000, y.shareFor(0, 300));
        Check.due("all but one", 997, y.shareFor(0, 299));
        Check.due("one more than all", EscrowDesk.NONE, y.shareFor(0, 301));
        Check.due("a share that shareFor gave", true, x.resolve(0, 337) - x.fees() >= 100);
    }

    private static void shortDays() {
        EscrowDesk x = Desks.of("deposit 50; grace 2; milestone a 30 1 when day 3; milestone b 30 1 when day 6;");
        Check.due("7 days", EscrowDesk.NONE, x.shortDay(7));
        Check.due("8 days", 8, x.shortDay(8));
        Check.due("120 days", 8, x.shortDay(120));
        x.pass(8);
        Check.due("still short", 9, x.shortDay(1));
        x.deposit(9);
        Check.due("one is missing", 9, x.shortDay(1));
        x.deposit(1);
        Check.due("enough", EscrowDesk.NONE, x.shortDay(120));
        EscrowDesk y = Desks.of("milestone a 30 1 when always; grace 60;");
        Check.due("short behind the grace period", 61, y.shortDay(61));
        Check.due("not within it", EscrowDesk.NONE, y.shortDay(60));
        y.pass(10);
        y.dispute(0);
        Check.due("a disputed one is not due", EscrowDesk.NONE, y.shortDay(120));
    }

    private static void trialsChangeNothing() {
        EscrowDesk x = Desks.of("rate 3000 360; deposit 1000; fee 100; milestone a 30 1 when always; milestone b 9 1 when approved;");
        x.dispute(1);
        x.paymentsAfter(120);
        x.paidAfter(0, 120);
        x.creditedAfter(120);
        x.daysUntilClosed(0);
        x.shortDay(120);
        x.splitPayment(1, 500);
        x.shareFor(1, 9);
        Check.due("day", 0, x.day());
        Check.due("principal", 1000, x.principal());
        Check.due("parts", 0, x.accruedParts());
        Check.due("credited", 0, x.credited());
        Check.due("state", 0, x.state(0));
        Check.due("due day", EscrowDesk.NONE, x.dueDay(0));
        Check.due("state of b", 2, x.state(1));
        Check.due("entries", 1, x.entries());
        Check.due("trials are no edits", 0, x.undo());
    }

    private static void trialsBeyondTheLastDay() {
        EscrowDesk x = Desks.of("rate 3000 360; deposit 36; milestone a 5 1 when proof p;");
        for (int times = 0; times < 83; times++) {
            x.pass(120);
        }
        x.pass(39);
        Check.due("the last day", 9999, x.day());
        Check.noState("no day more", () -> x.pass(1));
        x.submit(0);
        Check.due("a trial looks beyond it", 1, x.daysUntilClosed(0));
        Check.due("payments beyond it", 5, x.paymentsAfter(120));
        Check.due("the clock goes beyond it", EscrowDesk.NONE, Desks.of("milestone a 1 1 when not always;").dayByClock(0));
    }
}
