/** Promises 6 to 15: what the account tells of its money; and how a day passes. */
final class AccountTest {
    public static void main(String[] args) {
        Check.parts(AccountTest::sums, AccountTest::availableMoney, AccountTest::interest, AccountTest::basisAndRate,
            AccountTest::interestBeyondAnInt, AccountTest::orderOfADay, AccountTest::paymentsInOrder,
            AccountTest::graceOfADay);
        Check.end("AccountTest");
    }

    private static void sums() {
        EscrowDesk x = Desks.of("fee 333; deposit 100; milestone a 60 1 when always; deposit 50; milestone b 80 1 when approved;");
        Check.due("day", 0, x.day());
        Check.due("deposited", 150, x.deposited());
        Check.due("principal", 150, x.principal());
        x.pass(1);
        Check.due("day then", 1, x.day());
        Check.due("deposited stays", 150, x.deposited());
        Check.due("principal after a payment", 90, x.principal());
        Check.due("fee 60 * 333 / 10000, rounded down", 1, x.fees());
        Check.due("received", 59, x.received());
        Check.due("refunded", 0, x.refunded());
        x.dispute(1);
        x.resolve(1, 400);
        Check.due("fees then: 32 * 333 / 10000 is 1", 2, x.fees());
        Check.due("received then", 90, x.received());
        Check.due("refunded then", 48, x.refunded());
        Check.due("principal then", 10, x.principal());
        x.close();
        Check.due("refunded at last", 58, x.refunded());
        Check.due("principal at last", 0, x.principal());
        Check.due("deposited at last", 150, x.deposited());
    }

    private static void availableMoney() {
        EscrowDesk x = Desks.of("deposit 100; milestone a 30 1 when approved; milestone b 90 1 when approved;"
            + "milestone c 50 1 when always;");
        x.dispute(0);
        Check.due("available beside a frozen amount", 70, x.available());
        x.dispute(1);
        Check.due("nothing is available", 0, x.available());
        Check.due("principal with frozen amounts", 100, x.principal());
        x.pass(3);
        Check.due("frozen money is not paid", 0, x.paid(2));
        x.withdraw(0);
        Check.due("available again", 30, x.available());
        x.pass(1);
        Check.due("paid what is available", 30, x.paid(2));
        Check.due("no money is available", 0, x.available());
    }

    /** 1000 units at 3000 are 3000000 parts a day; a unit is 3600000 parts. */
    private static void interest() {
        EscrowDesk x = Desks.of("rate 3000 360; deposit 1000;");
        x.pass(29);
        Check.due("parts of 29 days", 87000000L, x.accruedParts());
        Check.due("no credit before day 30", 0, x.credited());
        x.pass(1);
        Check.due("credit of day 30", 25, x.credited());
        Check.due("pot of day 30", 25, x.interestPot());
        Check.due("parts of day 30", 0, x.accruedParts());
        Check.due("the principal earns nothing itself", 1000, x.principal());
        x.pass(30);
        Check.due("the pot earns, too: 92250000 parts are 25 units", 50, x.credited());
        Check.due("the remainder stays", 2250000L, x.accruedParts());
        x.payInterest(40);
        Check.due("the pot without the payout", 10, x.interestPot());
        Check.due("credited stays", 50, x.credited());
        x.pass(1);
        Check.due("1010 units earn", 2250000L + 3030000L, x.accruedParts());
    }

    private static void basisAndRate() {
        EscrowDesk x = Desks.of("rate 3000 365; deposit 1000;");
        x.pass(30);
        Check.due("credit by 365 days", 24, x.credited());
        Check.due("parts by 365 days", 90000000L - 24 * 3650000L, x.accruedParts());
        x.setRate(0, 360);
        x.pass(30);
        Check.due("no rate, no credit", 24, x.credited());
        Check.due("the parts stay", 90000000L - 24 * 3650000L, x.accruedParts());
        x.setRate(1, 360);
        x.pass(1);
        Check.due("one part a unit", 90000000L - 24 * 3650000L + 1024, x.accruedParts());
    }

    /** The parts of a large account need a long; the pot may outgrow an int and still earns what it holds. */
    private static void interestBeyondAnInt() {
        EscrowDesk x = Desks.of("rate 3000 360; deposit 99999;");
        for (int deposits = 1; deposits < 100; deposits++) {
            x.deposit(99999);
        }
        x.pass(1);
        Check.due("parts beyond an int", 9999900L * 3000, x.accruedParts());
        long pot = 0;
        long parts = 9999900L * 3000;
        for (int day = 2; day <= 9840; day++) {
            parts += (9999900L + pot) * 3000;
            if (day % 30 == 0) {
                pot += parts / 3600000L;
                parts %= 3600000L;
            }
        }
        for (int times = 0; times < 81; times++) {
            x.pass(120);
        }
        x.pass(119);
        Check.due("day", 9840, x.day());
        Check.due("parts of a long time", parts, x.accruedParts());
        Check.due("pot is more than an int", true, pot > Integer.MAX_VALUE);
    }

    private static void orderOfADay() {
        EscrowDesk x = Desks.of("rate 100 360; deposit 100; milestone a 100 1 when day 1;");
        x.pass(1);
        Check.due("interest comes before payments", 10000, x.accruedParts());
        Check.due("due by the new day, paid on it", 3, x.state(0));
        x.pass(1);
        Check.due("no held money, no parts", 10000, x.accruedParts());

        EscrowDesk y = Desks.of("deposit 9; milestone a 3 9 when always; milestone b 3 1 when done a;"
            + "milestone c 3 1 when sum 3;");
        y.pass(1);
        Check.due("a is paid", 3, y.state(0));
        Check.due("conditions were judged before payments: b", 0, y.state(1));
        Check.due("conditions were judged before payments: c", 0, y.state(2));
        y.pass(1);
        Check.due("b is paid a day later", 3, y.state(1));
        Check.due("c is paid a day later", 3, y.state(2));
        Check.due("due day of b", 2, y.dueDay(1));

        EscrowDesk z = Desks.of("deposit 9; milestone a 3 9 when day 0 and not day 2; milestone b 3 1 when not day 1;");
        z.pass(4);
        Check.due("nothing becomes due on day 0", 0, z.state(1));
        Check.due("due and paid on day 1", 3, z.state(0));
    }

    private static void paymentsInOrder() {
        EscrowDesk x = Desks.of("deposit 100; milestone a 40 7 when always; milestone b 30 2 when always;"
            + "milestone c 50 7 when always; milestone d 10 2 when always;");
        Check.due("payments of the day", 100, x.pass(1));
        Check.due("b first", "1 1 30 1", Desks.entry(x, 1));
        Check.due("then d", "1 1 10 3", Desks.entry(x, 2));
        Check.due("then a", "1 1 40 0", Desks.entry(x, 3));
        Check.due("then a part of c", "1 1 20 2", Desks.entry(x, 4));
        Check.due("c stays due", 1, x.state(2));
        x.deposit(7);
        Check.due("the next day pays on", 7, x.pass(1));
        Check.due("due day stays", 1, x.dueDay(2));
        Check.due("no payment without money", 0, x.pass(5));
        Check.due("no entry without money", 7, x.entries());
        x.deposit(100);
        Check.due("the rest", 23, x.pass(1));
        Check.due("c is paid", 3, x.state(2));
    }

    private static void graceOfADay() {
        EscrowDesk x = Desks.of("grace 5; deposit 100; milestone a 40 1 when day 2 and not day 3;");
        x.pass(6);
        Check.due("due, though the condition holds no more", 1, x.state(0));
        Check.due("not paid in the grace period", 0, x.paid(0));
        Check.due("paid behind it", 40, x.pass(1));
        x.undo();
        x.setGrace(3);
        Check.due("a shorter grace period counts at once", 40, x.pass(1));
        x.undo();
        x.setGrace(10);
        Check.due("a longer one, too", 0, x.pass(5));
        Check.due("paid on day 12", 40, x.pass(1));
    }
}
