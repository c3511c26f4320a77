/** Promises 56 to 61: write, written, entries, entry, totalOn, busiestDay. */
final class LedgerTest {
    public static void main(String[] args) {
        Check.parts(LedgerTest::lines, LedgerTest::written, LedgerTest::entries, LedgerTest::keptEntries,
            LedgerTest::totals, LedgerTest::busiestDay);
        Check.end("LedgerTest");
    }

    private static void lines() {
        EscrowDesk x = Desks.of("deposit 99999; deposit 50000; milestone abcdefghi 99999 1 when day 2; milestone z 7 1 when approved;"
            + "milestone lmn 50 1 when approved; grace 60;");
        Check.due("open", "abcdefghi open 0/99999", Desks.line(x, 0));
        x.pass(12);
        Check.due("due", "abcdefghi due 0/99999 since 2", Desks.line(x, 0));
        x.pay(0, 1234);
        Check.due("due with a part", "abcdefghi due 1234/99999 since 2", Desks.line(x, 0));
        x.dispute(0);
        Check.due("disputed", "abcdefghi disputed 1234/99999 frozen 98765", Desks.line(x, 0));
        Check.due("length", 42, x.write(0));
        x.pay(1, 7);
        Check.due("paid", "z paid 7/7", Desks.line(x, 1));
        x.dispute(2);
        x.resolve(2, 100);
        Check.due("settled", "lmn settled 5/50", Desks.line(x, 2));
        x.withdraw(0);
        Check.due("open, though it was due", "abcdefghi open 1234/99999", Desks.line(x, 0));
        x.cancel(0);
        Check.due("cancelled", "abcdefghi cancelled 1234/99999", Desks.line(x, 0));
        EscrowDesk y = Desks.of("milestone q 7 1 when approved;");
        y.dispute(0);
        Check.due("nothing frozen", "q disputed 0/7 frozen 0", Desks.line(y, 0));
        for (int no : new int[] {-1, 1, 10, Integer.MIN_VALUE, Integer.MAX_VALUE}) {
            Check.noIndex("write " + no, () -> y.write(no));
        }
    }

    private static void written() {
        EscrowDesk x = Desks.of("milestone abc 7 1 when approved;");
        Check.noIndex("nothing was written yet", () -> x.written(0));
        Check.due("abc open 0/7", 12, x.write(0));
        Check.due("first", 'a', x.written(0));
        Check.due("last", '7', x.written(11));
        Check.noIndex("behind the last", () -> x.written(12));
        Check.noIndex("before the first", () -> x.written(-1));
        Check.noIndex("min", () -> x.written(Integer.MIN_VALUE));
        Check.noIndex("max", () -> x.written(Integer.MAX_VALUE));
        Check.noIndex("no such milestone", () -> x.write(1));
        Check.due("the output stays", 'n', x.written(7));
        x.cancel(0);
        Check.due("the output is as it was written", 'o', x.written(4));
        Check.due("a longer line", 17, x.write(0));
        Check.due("in place of the other", 'c', x.written(4));
        x.undo();
        Check.due("undo does not take it back", 'c', x.written(4));
        Check.due("a shorter line", 12, x.write(0));
        Check.noIndex("nothing of the longer one is left", () -> x.written(12));
    }

    private static void entries() {
        EscrowDesk x = Desks.of("rate 3000 360; deposit 1000; milestone a 60 1 when day 3; deposit 5; milestone b 9 1 when approved;");
        Check.due("deposits of the text", 2, x.entries());
        Check.due("first", "0 0 1000 -1", Desks.entry(x, 0));
        Check.due("second", "0 0 5 -1", Desks.entry(x, 1));
        x.pass(29);
        x.pay(1, 2);
        x.pass(1);
        x.deposit(7);
        x.dispute(1);
        x.resolve(1, 500);
        x.payInterest(3);
        x.close();
        String[] due = {"1 3 60 0", "1 29 2 1", "3 30 23 -1", "0 30 7 -1", "1 30 3 1", "2 30 4 1", "4 30 3 -1", "2 30 943 -1"};
        Check.due("entries", 2 + due.length, x.entries());
        for (int entry = 0; entry < due.length; entry++) {
            Check.due("entry " + (entry + 2), due[entry], Desks.entry(x, entry + 2));
        }
        for (int what : new int[] {-1, 4, Integer.MIN_VALUE, Integer.MAX_VALUE}) {
            Check.noArgument("what " + what, () -> x.entry(0, what));
            Check.noIndex("the entry comes first", () -> x.entry(10, what));
        }
        for (int no : new int[] {-1, 10, 60, Integer.MIN_VALUE, Integer.MAX_VALUE}) {
            Check.noIndex("entry " + no, () -> x.entry(no, 0));
        }
        Check.noIndex("no entry at first", () -> new EscrowDesk().entry(0, 0));
    }

    private static void keptEntries() {
        EscrowDesk x = new EscrowDesk();
        for (int amount = 1; amount <= 60; amount++) {
            x.deposit(amount);
        }
        Check.due("60 entries", 60, x.entries());
        Check.due("the first is kept", 1, x.entry(0, 2));
        Check.due("the last", 60, x.entry(59, 2));
        x.pass(1);
        x.deposit(61);
        Check.due("still 60", 60, x.entries());
        Check.due("the first is lost", 2, x.entry(0, 2));
        Check.due("the new one is the last", "0 1 61 -1", Desks.entry(x, 59));
        Check.noIndex("no 61st", () -> x.entry(60, 0));
        Check.due("only kept ones are summed up", 60 * 61 / 2 - 1, x.totalOn(0, 0));
        for (int amount = 62; amount <= 150; amount++) {
            x.deposit(amount);
        }
        Check.due("the first of the latest", 91, x.entry(0, 2));
        Check.due("the last of the latest", 150, x.entry(59, 2));
        Check.due("none of day 0", 0, x.totalOn(0, 0));
    }

    private static void totals() {
        EscrowDesk x = Desks.of("deposit 1000; milestone a 60 1 when day 3; milestone b 9 1 when approved;");
        x.deposit(5);
        x.pass(3);
        x.pay(1, 2);
        x.dispute(1);
        x.resolve(1, 300);
        Check.due("deposits of day 0", 1005, x.totalOn(0, 0));
        Check.due("payments of day 3", 64, x.totalOn(3, 1));
        Check.due("refunds of day 3", 5, x.totalOn(3, 2));
        Check.due("deposits of day 3", 0, x.totalOn(3, 0));
        Check.due("payments of day 0", 0, x.totalOn(0, 1));
        Check.due("credits", 0, x.totalOn(3, 3));
        Check.due("payouts", 0, x.totalOn(3, 4));
        Check.due("a day to come", 0, x.totalOn(4, 1));
        Check.due("no day", 0, x.totalOn(-1, 1));
        Check.due("min", 0, x.totalOn(Integer.MIN_VALUE, 0));
        for (int kind : new int[] {-1, 5, Integer.MIN_VALUE, Integer.MAX_VALUE}) {
            Check.noArgument("kind " + kind, () -> x.totalOn(0, kind));
        }
        EscrowDesk y = Desks.of("rate 3000 360; deposit 1000;");
        y.pass(60);
        y.payInterest(1);
        y.payInterest(2);
        Check.due("credit of day 30", 25, y.totalOn(30, 3));
        Check.due("credit of day 60", 25, y.totalOn(60, 3));
        Check.due("payouts of day 60", 3, y.totalOn(60, 4));
    }

    private static void busiestDay() {
        EscrowDesk x = Desks.of("deposit 1000; milestone a 100 1 when approved; milestone b 100 1 when approved;");
        Check.due("no payments", EscrowDesk.NONE, x.busiestDay());
        Check.due("none of a new object", EscrowDesk.NONE, new EscrowDesk().busiestDay());
        x.pass(2);
        x.pay(0, 10);
        Check.due("one day", 2, x.busiestDay());
        x.pass(1);
        x.pay(0, 4);
        x.deposit(90);
        x.pay(1, 6);
        Check.due("the earliest of two", 2, x.busiestDay());
        x.pay(0, 1);
        Check.due("more in three payments", 3, x.busiestDay());
        x.pass(1);
        x.pay(0, 10);
        Check.due("less", 3, x.busiestDay());
        x.dispute(1);
        x.resolve(1, 0);
        Check.due("refunds do not count", 3, x.busiestDay());
        for (int deposits = 0; deposits < 55; deposits++) {
            x.deposit(1);
        }
        Check.due("only kept payments count: 11 of day 3 are lost but for 7", 4, x.busiestDay());
        EscrowDesk y = Desks.of("deposit 1000; milestone a 100 1 when approved;");
        y.pay(0, 10);
        Check.due("day 0", 0, y.busiestDay());
        EscrowDesk z = Desks.of("deposit 1000; milestone a 100 1 when approved;");
        z.pass(7);
        z.pay(0, 1);
        Check.due("a payment of one", 7, z.busiestDay());
        for (int deposits = 0; deposits < 59; deposits++) {
            z.deposit(1);
        }
        Check.due("the oldest entry is the only payment", 7, z.busiestDay());
        z.deposit(1);
        Check.due("it is lost", EscrowDesk.NONE, z.busiestDay());
    }
}
