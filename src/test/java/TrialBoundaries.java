/** The clauses of the promises 35 to 41: the trials. */
final class TrialBoundaries {
    private static final int NONE = EscrowDesk.NONE;

    private TrialBoundaries() {
    }

    static void run() {
        Check.parts(TrialBoundaries::paymentsAndCredits, TrialBoundaries::daysUntilClosed,
            TrialBoundaries::splitPayment, TrialBoundaries::shareFor, TrialBoundaries::shortDay,
            TrialBoundaries::asIfTheDaysHadPassed);
    }

    private static void paymentsAndCredits() {
        Document.says(35, "Returns the sum of all payments (fees included) after so many more days.");
        EscrowDesk x = Desks.of("fee 2000; deposit 100; milestone a 30 1 when day 3; milestone b 90 1 when done a; milestone c"
            + " 5 1 when approved;");
        Check.due("a day before", 0, x.paymentsAfter(2));
        Check.due("on the day", 30, x.paymentsAfter(3));
        Check.due("all the money", 100, x.paymentsAfter(4));
        Check.due("no more", 100, x.paymentsAfter(120));
        x.pay(2, 5);
        Check.due("what was paid before is in the sum", 5, x.paymentsAfter(2));
        x.pass(3);
        Check.due("a day later", 100, x.paymentsAfter(1));
        Document.says(36, "Returns the paid amount of a milestone after so many more days.");
        EscrowDesk y = Desks.of("deposit 100; grace 2; milestone a 30 1 when day 3; milestone b 90 1 when day 3;");
        Check.due("a day before", 0, y.paidAfter(0, 4));
        Check.due("on the day", 30, y.paidAfter(0, 5));
        Check.due("a part", 70, y.paidAfter(1, 5));
        y.pay(1, 1);
        Check.due("what was paid before is in it", 1, y.paidAfter(1, 4));
        Check.due("and the rest", 70, y.paidAfter(1, 5));
        Document.says(37, "Returns the sum of all credits of interest after so many more days.");
        EscrowDesk z = Desks.of("rate 3000 360; deposit 1000;");
        Check.due("a day before", 0, z.creditedAfter(29));
        Check.due("on the day", 25, z.creditedAfter(30));
        Check.due("two", 50, z.creditedAfter(60));
        z.pass(30);
        z.payInterest(25);
        Check.due("what was credited before is in the sum, though it was paid out", 25, z.creditedAfter(29));
        Check.due("and the next", 50, z.creditedAfter(30));
    }

    private static void daysUntilClosed() {
        String text = "grace 1; deposit 100; milestone a 30 1 when day 119; milestone b 30 1 when day 120; milestone c 30 1"
            + " when always;"
            + "milestone d 99 9 when always;";
        Document.says(38, "Returns how many days must pass until a milestone is closed.");
        Check.due("due on day 1, paid on day 2", 2, Desks.of(text).daysUntilClosed(2));
        Check.due("without a grace period", 1, Desks.of(text + "grace 0;").daysUntilClosed(2));
        Document.says(38, "Returns the number of days, 0 to 120;");
        EscrowDesk x = Desks.of("deposit 100; milestone a 30 1 when day 119; milestone b 30 1 when day 120; milestone c 30 1"
            + " when day 121; milestone d 5 1 when always;");
        Check.due("119", 119, x.daysUntilClosed(0));
        Check.due("120", 120, x.daysUntilClosed(1));
        x.pay(3, 5);
        Check.due("0, paid already", 0, x.daysUntilClosed(3));
        x.cancel(2);
        Check.due("0, cancelled already", 0, x.daysUntilClosed(2));
        x.dispute(0);
        x.resolve(0, 0);
        Check.due("0, settled already", 0, x.daysUntilClosed(0));
        Document.says(38, "NONE if it is not closed after 120 days.");
        EscrowDesk y = Desks.of("deposit 101; milestone a 30 1 when day 121; milestone b 1 1 when approved; milestone c 71 9"
            + " when day 119;");
        Check.due("121", NONE, y.daysUntilClosed(0));
        Check.due("never", NONE, y.daysUntilClosed(1));
        y.pass(1);
        Check.due("120 a day later: the money suffices for both", 120, y.daysUntilClosed(0));
        Check.due("118 of the other", 118, y.daysUntilClosed(2));
        y.pay(1, 1);
        Check.due("the money does not suffice", NONE, y.daysUntilClosed(0));
        y.undo();
        y.dispute(0);
        Check.due("disputed", NONE, y.daysUntilClosed(0));
    }

    private static void splitPayment() {
        Document.says(39, "Returns the payment that resolve() would make.");
        for (int share : new int[] {0, 1, 14, 15, 499, 500, 985, 986, 999, 1000}) {
            EscrowDesk x = Desks.of("deposit 100; milestone a 70 1 when approved;");
            x.dispute(0);
            String before = Story.now(x);
            int payment = x.splitPayment(0, share);
            Check.due("70 * " + share, 70 * share / 1000, payment);
            Check.due("nothing changed", before, Story.now(x));
            Check.due("resolve()", payment, x.resolve(0, share));
        }
        EscrowDesk y = Desks.of("deposit 50; milestone a 70 1 when approved;");
        y.dispute(0);
        Check.due("50 were frozen", 50, y.splitPayment(0, 1000));
        y.deposit(19);
        Check.due("69 are available when they are released", 69, y.splitPayment(0, 1000));
        y.deposit(2);
        Check.due("70 remain", 70, y.splitPayment(0, 1000));
        Document.says(39, "Throws `IllegalStateException` if the milestone is not disputed");
        EscrowDesk z = inAllStates();
        for (int milestone = 0; milestone < 6; milestone++) {
            int number = milestone;
            if (milestone == 2) {
                Check.due("disputed", 5, z.splitPayment(2, 500));
            } else {
                Check.noState("state " + number, () -> z.splitPayment(number, 500));
            }
        }
    }

    /** Milestone k is in the state k. */
    static EscrowDesk inAllStates() {
        EscrowDesk x = Desks.of("grace 60; deposit 100; milestone a 10 1 when approved; milestone b 10 1 when always;"
            + " milestone c 10 1 when always;"
            + "milestone d 10 1 when always; milestone e 10 1 when always; milestone f 10 1 when always;");
        x.pass(1);
        x.dispute(2);
        x.pay(3, 10);
        x.dispute(4);
        x.resolve(4, 500);
        x.cancel(5);
        for (int milestone = 0; milestone < 6; milestone++) {
            Check.due("state of milestone " + milestone, milestone, x.state(milestone));
        }
        return x;
    }

    private static void shareFor() {
        Document.says(40, "Returns the smallest share with which resolve() would give the seller at least an amount, without"
            + " the fee.");
        for (int fee : new int[] {0, 1, 333, 2000}) {
            EscrowDesk x = Desks.of("fee " + fee + "; deposit 300; milestone a 300 1 when approved;");
            x.dispute(0);
            for (int amount = 0; amount <= 301; amount++) {
                Check.due("fee " + fee + ", amount " + amount, smallestShare(x, amount), x.shareFor(0, amount));
            }
        }
        Document.says(40, "Returns the share;");
        EscrowDesk y = Desks.of("deposit 300; milestone a 300 1 when approved;");
        y.dispute(0);
        Check.due("0", 0, y.shareFor(0, 0));
        Check.due("1 of 300 needs 4 of 1000", 4, y.shareFor(0, 1));
        Check.due("299 of 300 need 997 of 1000", 997, y.shareFor(0, 299));
        Check.due("300 of 300", 1000, y.shareFor(0, 300));
        Document.says(40, "NONE if there is none.");
        Check.due("301 of 300", NONE, y.shareFor(0, 301));
        Check.due("99999 of 300", NONE, y.shareFor(0, 99999));
        EscrowDesk fee = Desks.of("fee 2000; deposit 300; milestone a 300 1 when approved; milestone b 5 1 when approved;");
        fee.dispute(0);
        Check.due("240 of 299, of which 59 are the fee", 997, fee.shareFor(0, 240));
        Check.due("241", NONE, fee.shareFor(0, 241));
        fee.dispute(1);
        Check.due("no money", NONE, fee.shareFor(1, 1));
        Check.due("no money, nothing", 0, fee.shareFor(1, 0));
        Document.says(40, "Throws `IllegalStateException` if the milestone is not disputed");
        EscrowDesk z = inAllStates();
        for (int milestone = 0; milestone < 6; milestone++) {
            int number = milestone;
            if (milestone == 2) {
                Check.due("disputed", 500, z.shareFor(2, 5));
            } else {
                Check.noState("state " + number, () -> z.shareFor(number, 5));
                Check.noState("state " + number + ", nothing", () -> z.shareFor(number, 0));
            }
        }
    }

    /** By trying resolve() itself. */
    private static int smallestShare(EscrowDesk x, int amount) {
        for (int share = 0; share <= 1000; share++) {
            x.resolve(0, share);
            int received = x.received();
            x.undo();
            if (received >= amount) {
                return share;
            }
        }
        return NONE;
    }

    private static void shortDay() {
        Document.says(41, "Finds the first day on which money is short: a day after which a due milestone whose due day plus"
            + " the grace period");
        EscrowDesk x = Desks.of("grace 2; deposit 9; milestone a 10 1 when day 3;");
        Check.due("due on day 3, short on day 5", 5, x.shortDay(120));
        x.deposit(1);
        Check.due("never short", NONE, x.shortDay(120));
        x.undo();
        x.pass(5);
        Check.due("only days to come: short on day 6, too", 6, x.shortDay(120));
        x.setGrace(4);
        Check.due("a longer grace period", 7, x.shortDay(120));
        x.setGrace(60);
        Check.due("paid in part, and the longest one", 63, x.shortDay(120));
        x.dispute(0);
        Check.due("disputed", NONE, x.shortDay(120));
        x.withdraw(0);
        x.cancel(0);
        Check.due("cancelled", NONE, x.shortDay(120));
        EscrowDesk two = Desks.of("deposit 10; milestone a 10 5 when day 4; milestone b 10 1 when day 6; milestone c 10 1 when"
            + " approved;");
        Check.due("the second one is short", 6, two.shortDay(120));
        two.dispute(2);
        Check.due("by what is frozen the first one, too", 4, two.shortDay(120));
        Document.says(41, "only the next so many days are looked at");
        EscrowDesk y = Desks.of("milestone a 10 1 when day 10;");
        Check.due("9 days", NONE, y.shortDay(9));
        Check.due("10 days", 10, y.shortDay(10));
        Check.due("11 days", 10, y.shortDay(11));
        y.pass(9);
        Check.due("1 day", 10, y.shortDay(1));
        EscrowDesk z = Desks.of("milestone a 10 1 when day 120; milestone b 10 1 when approved;");
        Check.due("119 days", NONE, z.shortDay(119));
        Check.due("120 days", 120, z.shortDay(120));
        Document.says(41, "Returns that day;");
        EscrowDesk late = ErrorBoundaries.onTheLastDay();
        late.undo();
        late.approve(0);
        Check.due("a late day", 9961, late.shortDay(120));
        Check.due("the first day", 1, Desks.of("milestone a 10 1 when always;").shortDay(1));
        Document.says(41, "NONE if there is none.");
        Check.due("nothing to pay", NONE, new EscrowDesk().shortDay(120));
        Check.due("nothing is due", NONE, Desks.of("milestone a 10 1 when approved;").shortDay(120));
        Check.due("money enough", NONE, Desks.of("deposit 10; milestone a 10 1 when always;").shortDay(120));
    }

    /** A trial tells what the desk itself tells when the days have passed, and leaves no trace. */
    private static void asIfTheDaysHadPassed() {
        String text = "rate 3000 360; fee 700; grace 3; deposit 900; milestone a 300 5 when day 7; milestone b 400 1 when done"
            + " a and day 40;"
            + "milestone c 500 9 when sum 600; milestone d 50 1 when not day 2; milestone e 60 1 when proof p or day 119;";
        for (int days = 1; days <= 120; days++) {
            EscrowDesk x = Desks.of(text);
            EscrowDesk passed = Desks.of(text);
            passed.pass(days);
            Document.says(35, "Returns the sum of all payments (fees included) after so many more days.");
            Check.due(days + " days", passed.received() + passed.fees(), x.paymentsAfter(days));
            Document.says(36, "Returns the paid amount of a milestone after so many more days.");
            for (int milestone = 0; milestone < 5; milestone++) {
                Check.due(days + " days, milestone " + milestone, passed.paid(milestone), x.paidAfter(milestone, days));
            }
            Document.says(37, "Returns the sum of all credits of interest after so many more days.");
            Check.due(days + " days", passed.credited(), x.creditedAfter(days));
            Document.says(38, "Returns how many days must pass until a milestone is closed.");
            for (int milestone = 0; milestone < 5; milestone++) {
                int until = x.daysUntilClosed(milestone);
                Check.due(days + " days, milestone " + milestone, until != NONE && until <= days, passed.state(milestone) >= 3);
            }
            Check.due("no trace", Story.whole(Desks.of(text)), Story.whole(x));
        }
    }
}
