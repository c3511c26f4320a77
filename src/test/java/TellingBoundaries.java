/** The clauses of the promises 1 to 34 and 56 to 61: the text, what a desk tells, its output and its ledger. */
final class TellingBoundaries {
    private static final int NONE = EscrowDesk.NONE;
    private static final int BLANK = 0x20202020;

    private TellingBoundaries() {
    }

    static void run() {
        Check.parts(TellingBoundaries::newObject, TellingBoundaries::feed, TellingBoundaries::load,
            TellingBoundaries::errors, TellingBoundaries::sums, TellingBoundaries::interest,
            TellingBoundaries::milestones, TellingBoundaries::dueDay, TellingBoundaries::holds,
            TellingBoundaries::dayByClock, TellingBoundaries::missingProofs, TellingBoundaries::counts,
            TellingBoundaries::graceLeft, TellingBoundaries::proofs, TellingBoundaries::wouldHold,
            TellingBoundaries::dueAt, TellingBoundaries::shortage, TellingBoundaries::write,
            TellingBoundaries::written, TellingBoundaries::entries, TellingBoundaries::totals,
            TellingBoundaries::busiestDay);
    }

    private static void newObject() {
        Document.says(1, "Creates an account as an empty text defines it, and an empty buffer.");
        EscrowDesk empty = new EscrowDesk();
        empty.load(0);
        Check.due("as an empty text", Story.whole(empty), Story.whole(new EscrowDesk()));
        EscrowDesk x = new EscrowDesk();
        Check.noArgument("no byte in the buffer", () -> x.load(1));
        Check.due("the first bytes", 20, x.feed(BLANK, BLANK, BLANK, BLANK, BLANK));
        Check.due("no edits", NONE, x.undo());
        Check.due("nothing to close", 0, x.close());
        // Objects do not share anything.
        EscrowDesk y = Desks.of("deposit 9; milestone a 5 1 when proof p;");
        Check.due("another one stays new", 0, new EscrowDesk().deposited());
        x.deposit(5);
        Check.due("another one stays as it is", 9, y.deposited());
    }

    private static void feed() {
        Document.says(2, "Appends 20 bytes to the buffer: the four bytes of a, then of b, c, d and e, the most significant"
            + " byte of each first.");
        for (int at = 0; at < 20; at++) {
            int[] words = {BLANK, BLANK, BLANK, BLANK, BLANK};
            words[at / 4] += ('?' - ' ') << 8 * (3 - at % 4);
            EscrowDesk x = new EscrowDesk();
            x.feed(words[0], words[1], words[2], words[3], words[4]);
            Check.due("a wrong byte at " + at, EscrowDesk.BAD_TEXT, x.load(20));
            Check.due("its place", at, x.errorPosition());
            EscrowDesk y = new EscrowDesk();
            y.feed(BLANK, BLANK, BLANK, BLANK, BLANK);
            y.feed(words[0], words[1], words[2], words[3], words[4]);
            Check.due("the place in the second feed", 20 + at, y.load(40) == EscrowDesk.BAD_TEXT ? y.errorPosition() : NONE);
        }
        EscrowDesk bytes = new EscrowDesk();
        bytes.feed(0xff202020, BLANK, BLANK, BLANK, BLANK);
        Check.due("a first byte of 255", EscrowDesk.BAD_TEXT, bytes.load(20));
        Check.due("is at 0", 0, bytes.errorPosition());
        bytes.feed(0x202020ff, 0x80202020, BLANK, BLANK, BLANK);
        Check.due("a fourth byte of 255", 3, bytes.load(20) == EscrowDesk.BAD_TEXT ? bytes.errorPosition() : NONE);
        Document.says(2, "Returns the number of bytes in the buffer;");
        EscrowDesk x = new EscrowDesk();
        for (int feeds = 1; feeds <= 35; feeds++) {
            Check.due("after " + feeds, 20 * feeds, x.feed(BLANK, BLANK, BLANK, BLANK, BLANK));
        }
        Document.says(2, "FULL if there would be more than 700 (nothing is appended).");
        Check.due("720", EscrowDesk.FULL, x.feed(-1, -1, -1, -1, -1));
        Check.due("720 again", EscrowDesk.FULL, x.feed(0, 0, 0, 0, 0));
        Check.noArgument("701 bytes are not there", () -> x.load(701));
        Check.noArgument("720 bytes are not there", () -> x.load(720));
        Check.due("700 bytes, all of them blanks still", 0, x.load(700));
        Check.due("no error in them", 0, x.errorKind());
        Check.due("room again", 20, x.feed(0, 0, 0, 0, 0));
    }

    private static void load() {
        Document.says(3, "Reads a text from the first bytes of the buffer and empties the buffer, also if the text is not"
            + " legal.");
        EscrowDesk x = new EscrowDesk();
        Desks.feed(x, "deposit 5;deposit 7;");
        Check.due("the first ten bytes", 0, x.load(10));
        Check.due("only these", 5, x.deposited());
        Check.noArgument("the rest is not there any more", () -> x.load(1));
        Desks.feed(x, "deposit 5;deposit 7;");
        Check.due("a text that is not legal", EscrowDesk.BAD_TEXT, x.load(9));
        Check.noArgument("the buffer is empty behind it, too", () -> x.load(1));
        Check.due("it counts from 0", 20, x.feed(BLANK, BLANK, BLANK, BLANK, BLANK));
        Check.due("nothing of the earlier texts is read", 0, x.load(20));
        Check.due("no deposit", 0, x.deposited());
        anew("deposit 5; milestone a 9 1 when proof q or approved; milestone b 7 1 when day 3;");
        anew("milestone b 7 1 when approved; milestone c 7 1 when proof r; milestone d 7 1 when always; milestone e 7 1 when"
            + " sum 1;");
        anew("");
        Document.says(3, "- `length`: number of bytes of the text, 0 to the number of bytes in the buffer");
        Desks.feed(x, "deposit 5;deposit 7;");
        Check.due("0 bytes", 0, x.load(0));
        Check.due("nothing was read", 0, x.deposited());
        Check.noArgument("the buffer was emptied", () -> x.load(1));
        Desks.feed(x, "deposit 5;deposit 7;");
        Check.due("20 bytes", 0, x.load(20));
        Check.due("both were read", 12, x.deposited());
        Document.says(3, "Returns the number of milestones;");
        Check.due("none", 0, Desks.load(x, "deposit 5;"));
        Check.due("one", 1, Desks.load(x, "milestone a 5 1 when always;"));
        StringBuilder ten = new StringBuilder();
        for (char name = 'a'; name <= 'j'; name++) {
            ten.append("milestone ").append(name).append(" 5 1 when always;");
        }
        Check.due("ten", 10, Desks.load(x, ten.toString()));
        Document.says(3, "BAD_TEXT if the text is not legal (everything but the buffer stays).");
        x.pass(3);
        x.write(4);
        String before = Story.now(x);
        Check.due("a bad text", EscrowDesk.BAD_TEXT, Desks.load(x, "rate 9 360; grace 9; deposit 5; milestone q 1 1 when proof"
            + " q; ?"));
        Check.due("all stays", before, Story.now(x));
        Check.due("one edit can be undone", 0, x.undo());
        Document.says(3, "Throws `IllegalArgumentException` if length is out of range (the buffer keeps its bytes)");
        Desks.feed(x, "deposit 5;deposit 7;");
        for (int length : new int[] {-1, 21, 700, 701, Integer.MIN_VALUE, Integer.MAX_VALUE}) {
            Check.noArgument("load(" + length + ")", () -> x.load(length));
        }
        Check.due("the buffer has its 20 bytes", 40, x.feed(BLANK, BLANK, BLANK, BLANK, BLANK));
        Check.noArgument("load(41)", () -> x.load(41));
        Check.due("the bytes are as they were", 0, x.load(40));
        Check.due("both deposits", 12, x.deposited());
    }

    /** A desk with much behind it is by a legal text as a new one is by the same text. */
    private static void anew(String text) {
        EscrowDesk x = Desks.of("rate 3000 360; fee 2000; grace 2; deposit 9000; milestone a 100 1 when proof p; milestone b"
            + " 50 1 when always;"
            + "milestone c 70 1 when approved; milestone d 80 1 when day 100; milestone e 60 1 when proof q;");
        x.approve(0);
        x.approve(1);
        x.pass(31);
        x.submit(0);
        x.submit(1);
        x.payInterest(1);
        x.dispute(0);
        x.dispute(2);
        x.resolve(2, 500);
        x.cancel(3);
        Check.due(text, true, Desks.load(x, text) >= 0);
        Check.due("as a new one: " + text, Story.whole(Desks.of(text)), Story.whole(x));
    }

    private static void errors() {
        Document.says(4, "Returns the kind of the error of the latest load() that did not throw an exception;");
        EscrowDesk x = new EscrowDesk();
        String[] texts = {"?", "fee", "fee 2001", "milestone a 1 1 when done a", "deposit 1;".repeat(7)};
        int[] positions = {0, 3, 4, 26, 60};
        for (int kind = 1; kind <= 5; kind++) {
            Desks.load(x, texts[kind - 1]);
            Check.due(texts[kind - 1], kind, x.errorKind());
            Check.noArgument("a load() that throws", () -> x.load(1));
            Check.due("the kind stays", kind, x.errorKind());
        }
        Document.says(4, "0 if it had none or there was no such load().");
        Check.due("no load()", 0, new EscrowDesk().errorKind());
        EscrowDesk thrown = new EscrowDesk();
        Check.noArgument("a load() that throws", () -> thrown.load(1));
        Check.due("no load() but one that threw", 0, thrown.errorKind());
        Check.due("a good text", 0, x.load(0));
        Check.due("no error", 0, x.errorKind());
        Document.says(5, "Returns the position of that error in the text;");
        for (int kind = 1; kind <= 5; kind++) {
            Desks.load(x, texts[kind - 1]);
            Check.due(texts[kind - 1], positions[kind - 1], x.errorPosition());
            Check.noArgument("a load() that throws", () -> x.load(-1));
            Check.due("the position stays", positions[kind - 1], x.errorPosition());
        }
        Document.says(5, "NONE if errorKind() is 0.");
        Check.due("no load()", NONE, new EscrowDesk().errorPosition());
        Check.due("no load() but one that threw", NONE, thrown.errorPosition());
        Check.due("a good text", 0, x.load(0));
        Check.due("no position", NONE, x.errorPosition());
    }

    private static void sums() {
        EscrowDesk x = Desks.of("rate 3000 360; fee 1000; deposit 1000; milestone a 100 1 when day 2; milestone b 50 1 when"
            + " approved; deposit 24;");
        Document.says(6, "Returns the present day.");
        Check.due("at first", 0, x.day());
        x.pass(1);
        Check.due("then", 1, x.day());
        x.undo();
        Check.due("undone", 0, x.day());
        Document.says(7, "Returns the sum of all deposits.");
        Check.due("those of the text", 1024, x.deposited());
        x.deposit(1);
        Check.due("one more", 1025, x.deposited());
        Document.says(8, "Returns the principal.");
        Check.due("all deposits", 1025, x.principal());
        x.pass(2);
        Check.due("without the payment", 925, x.principal());
        Check.due("the deposits stay", 1025, x.deposited());
        Document.says(9, "Returns the available money.");
        Check.due("all", 925, x.available());
        x.dispute(1);
        Check.due("without what is frozen", 875, x.available());
        Document.says(13, "Returns what the seller has received, without the fees.");
        Check.due("90 of 100", 90, x.received());
        Document.says(14, "Returns the sum of all fees.");
        Check.due("10 of 100", 10, x.fees());
        x.resolve(1, 200);
        Check.due("1 of 10", 11, x.fees());
        Document.says(13, "Returns what the seller has received, without the fees.");
        Check.due("9 of 10", 99, x.received());
        Document.says(15, "Returns the sum of all refunds to the buyer, without payouts of interest.");
        Check.due("40 of 50", 40, x.refunded());
        x.pass(30);
        x.payInterest(5);
        Check.due("a payout of interest", 40, x.refunded());
        x.close();
        Check.due("the rest", 915, x.refunded());
        x.undo();
        Check.due("undone", 40, x.refunded());
        for (EscrowDesk fresh : new EscrowDesk[] {new EscrowDesk(), Desks.of("milestone a 5 1 when always;")}) {
            Check.due("nothing at first", 0,
                fresh.deposited() + fresh.principal() + fresh.available() + fresh.received() + fresh.fees()
                + fresh.refunded() + fresh.interestPot() + fresh.credited() + fresh.accruedParts());
        }
    }

    private static void interest() {
        EscrowDesk x = Desks.of("rate 3000 360; deposit 1000;");
        x.pass(60);
        Document.says(10, "Returns the interest pot.");
        Check.due("two credits", 50, x.interestPot());
        x.payInterest(49);
        Check.due("but a payout", 1, x.interestPot());
        Document.says(11, "Returns the sum of all credits of interest.");
        Check.due("without payouts", 50, x.credited());
        Document.says(12, "Returns the accrued parts.");
        Check.due("25 * 3000 * 30 parts of the second month", 2250000, x.accruedParts());
        EscrowDesk great = ErrorBoundaries.fullOfDeposits();
        great.setRate(3000, 360);
        great.pass(29);
        Check.due("more than an int", 9999999L * 3000 * 29, great.accruedParts());
    }

    private static void milestones() {
        Document.says(16, "Returns the number of milestones.");
        Check.due("none", 0, new EscrowDesk().milestones());
        EscrowDesk x = Desks.of("deposit 100; grace 60; milestone a 40 1 when day 1; milestone b 50 1 when day 1;");
        Check.due("two", 2, x.milestones());
        Document.says(17, "Returns the state of a milestone.");
        Check.due("open", 0, x.state(0));
        x.pass(1);
        Check.due("due", 1, x.state(0));
        x.dispute(0);
        Check.due("disputed", 2, x.state(0));
        Check.due("the other one", 1, x.state(1));
        Document.says(18, "Returns the paid amount of a milestone.");
        Check.due("nothing", 0, x.paid(1));
        x.pay(1, 30);
        Check.due("30", 30, x.paid(1));
        Check.due("the other one", 0, x.paid(0));
        Document.says(19, "Returns the remaining amount of a milestone.");
        Check.due("20", 20, x.remaining(1));
        x.pay(1, 20);
        Check.due("nothing", 0, x.remaining(1));
        Check.due("the other one", 40, x.remaining(0));
        Document.says(20, "Returns the frozen amount of a milestone.");
        Check.due("40", 40, x.frozen(0));
        Check.due("nothing", 0, x.frozen(1));
    }

    private static void dueDay() {
        Document.says(21, "Returns the day on which a milestone became due latest.");
        EscrowDesk x = Desks.of("grace 60; deposit 9; milestone a 5 1 when day 3; milestone b 5 1 when approved;");
        x.pass(4);
        x.dispute(0);
        x.withdraw(0);
        x.pass(5);
        Check.due("the latest of two", 5, x.dueDay(0));
        Document.says(21, "Returns that day;");
        EscrowDesk y = Desks.of("deposit 9; milestone a 5 1 when day 1;");
        y.pass(1);
        Check.due("day 1, of a paid one", 1, y.dueDay(0));
        Document.says(21, "NONE if it never became due.");
        Check.due("never due", NONE, x.dueDay(1));
        x.pay(1, 4);
        x.dispute(1);
        Check.due("paid in part and disputed, never due", NONE, x.dueDay(1));
        x.withdraw(1);
        Check.due("withdrawn, never due", NONE, x.dueDay(1));
        x.cancel(1);
        Check.due("cancelled, never due", NONE, x.dueDay(1));
        x.undo();
        x.approve(1);
        Check.due("approved, not due yet", NONE, x.dueDay(1));
        x.pass(1);
        Check.due("due", 10, x.dueDay(1));
        x.undo();
        Check.due("undone", NONE, x.dueDay(1));
    }

    private static void holds() {
        Document.says(22, "Tells whether the condition of a milestone holds now (whatever its state).");
        EscrowDesk x = Desks.of("grace 60; deposit 9; milestone a 1 1 when day 1 and not day 4;");
        Check.due("not on day 0", false, x.holds(0));
        x.pass(1);
        Check.due("due on day 1", true, x.holds(0));
        x.dispute(0);
        Check.due("disputed", true, x.holds(0));
        x.pass(2);
        Check.due("on day 3", true, x.holds(0));
        x.resolve(0, 0);
        Check.due("settled", true, x.holds(0));
        x.pass(1);
        Check.due("not on day 4", false, x.holds(0));
        EscrowDesk y = Desks.of("deposit 9; milestone a 1 1 when always; milestone b 1 1 when always;");
        y.pay(0, 1);
        y.cancel(1);
        Check.due("paid", true, y.holds(0));
        Check.due("cancelled", true, y.holds(1));
    }

    private static void dayByClock() {
        Document.says(23, "Finds the first day from the present one to 400 days later on which the condition of a milestone"
            + " would hold if nothing but");
        for (int named : new int[] {0, 1, 399, 400, 401, 402, 999}) {
            EscrowDesk x = Desks.of("milestone a 1 1 when day " + named + ";");
            Check.due("day " + named + " on day 0", named <= 400 ? named : NONE, x.dayByClock(0));
            x.pass(1);
            Check.due("day " + named + " on day 1", named <= 401 ? Math.max(named, 1) : NONE, x.dayByClock(0));
        }
        EscrowDesk late = Desks.of("milestone a 1 1 when day 999; milestone b 1 1 when day 998;");
        for (int passes = 0; passes < 5; passes++) {
            late.pass(119);
        }
        late.pass(3);
        Check.due("day 999 on day 598", NONE, late.dayByClock(0));
        Check.due("day 998 on day 598", 998, late.dayByClock(1));
        late.pass(1);
        Check.due("day 999 on day 599", 999, late.dayByClock(0));
        EscrowDesk y = Desks.of("deposit 9; milestone a 1 1 when day 5 and not day 6; milestone b 1 1 when done a; milestone c"
            + " 1 1 when sum 1 and day 3;");
        Check.due("the first of several days", 5, y.dayByClock(0));
        EscrowDesk second = Desks.of("milestone a 1 1 when day 5 and approved or day 9 and approved or day 12;");
        Check.due("the third of the days that are named", 12, second.dayByClock(0));
        second.pass(5);
        Check.due("also from the first of them", 12, second.dayByClock(0));
        Check.due("nothing is paid by the clock", NONE, y.dayByClock(1));
        Check.due("no payments by the clock", NONE, y.dayByClock(2));
        y.pass(5);
        Check.due("the present day is the first", 5, y.dayByClock(2));
        Check.due("of a closed one, too", 5, y.dayByClock(0));
        y.pass(1);
        Check.due("it is over", NONE, y.dayByClock(0));
        Document.says(23, "Returns that day;");
        Check.due("day 0", 0, Desks.of("milestone a 1 1 when always;").dayByClock(0));
        EscrowDesk z = ErrorBoundaries.onTheLastDay();
        z.approve(0);
        Check.due("day 9999", 9999, z.dayByClock(0));
        Document.says(23, "NONE if there is none.");
        Check.due("never", NONE, Desks.of("milestone a 1 1 when not always;").dayByClock(0));
        EscrowDesk over = Desks.of("milestone a 1 1 when not day 1;");
        Check.due("on day 0 alone", 0, over.dayByClock(0));
        over.pass(1);
        Check.due("on day 0 alone, which is over", NONE, over.dayByClock(0));
        z.undo();
        Check.due("never on the last day", NONE, z.dayByClock(0));
    }

    private static void missingProofs() {
        Document.says(24, "Finds the smallest set of proofs that were not submitted yet and with which, if they were"
            + " submitted, too,");
        EscrowDesk x = Desks.of("milestone z 1 1 when proof a or proof b or proof c or proof d or proof e or proof f or proof"
            + " g or proof h;"
            + "milestone a 1 1 when proof a and proof b and proof c or proof g and proof h;"
            + "milestone b 1 1 when proof h and proof g and proof f and proof e and proof d and proof c and proof b and proof a;"
            + "milestone c 1 1 when proof a and day 1; milestone d 1 1 when proof a and not proof b;");
        Check.due("all eight", 255, x.missingProofs(2));
        Check.due("two rather than three", 192, x.missingProofs(1));
        x.submit(0);
        Check.due("two are as few as two, and 6 is smaller than 192", 6, x.missingProofs(1));
        x.submit(7);
        Check.due("one rather than two", 64, x.missingProofs(1));
        Check.due("all that are left of eight", 126, x.missingProofs(2));
        x.undo();
        Check.due("seven of eight", 254, x.missingProofs(2));
        x.submit(7);
        Check.due("now, not a day later", NONE, x.missingProofs(3));
        x.submit(1);
        Check.due("a submitted one cannot be taken back", NONE, x.missingProofs(4));
        Document.says(24, "of several sets of the same size the one with the smallest number, where proof k counts 2 to the"
            + " power k.");
        EscrowDesk y = Desks.of("milestone a 1 1 when proof c or proof b or proof a; milestone b 1 1 when proof a and proof b"
            + " or proof c and proof b or proof c and proof a;"
            + "milestone c 1 1 when proof h or proof g or proof f or proof e or proof d;");
        Check.due("c was named first", 1, y.missingProofs(0));
        Check.due("c and b", 3, y.missingProofs(1));
        Check.due("h", 8, y.missingProofs(2));
        Check.due("the last of eight", 128, Desks.of("milestone z 1 1 when proof a or proof b or proof c or proof d or proof e"
            + " or proof f or proof g;"
            + "milestone a 1 1 when proof h;").missingProofs(1));
        Document.says(24, "Returns that number, 0 if the condition holds already;");
        Check.due("always", 0, Desks.of("milestone a 1 1 when always or proof a;").missingProofs(0));
        Check.due("without any proofs", 0, Desks.of("milestone a 1 1 when always;").missingProofs(0));
        Check.due("by its absence", 0, Desks.of("milestone a 1 1 when not proof a;").missingProofs(0));
        EscrowDesk all = Desks.of("milestone a 1 1 when proof a and proof b;");
        all.submit(0);
        all.submit(1);
        Check.due("all are submitted", 0, all.missingProofs(0));
        Document.says(24, "NONE if there is no such set.");
        Check.due("no proof helps", NONE, Desks.of("milestone a 1 1 when proof a and approved;").missingProofs(0));
        Check.due("there are none", NONE, Desks.of("milestone a 1 1 when approved;").missingProofs(0));
        EscrowDesk taken = Desks.of("milestone a 1 1 when not proof a;");
        taken.submit(0);
        Check.due("it is too late", NONE, taken.missingProofs(0));
    }

    private static void counts() {
        Document.says(25, "Returns the number of closed milestones.");
        EscrowDesk x = Desks.of("grace 60; deposit 99; milestone a 3 1 when always; milestone b 5 1 when approved; milestone c"
            + " 7 1 when approved;");
        Check.due("open ones", 0, x.closedCount());
        x.pass(1);
        Check.due("a due one", 0, x.closedCount());
        x.dispute(1);
        Check.due("a disputed one", 0, x.closedCount());
        x.resolve(1, 1000);
        Check.due("a settled one", 1, x.closedCount());
        x.cancel(2);
        Check.due("a cancelled one", 2, x.closedCount());
        x.pay(0, 2);
        Check.due("one that is paid in part", 2, x.closedCount());
        x.pay(0, 1);
        Check.due("a paid one", 3, x.closedCount());
        Check.due("none of none", 0, new EscrowDesk().closedCount());
        Document.says(26, "Returns the sum of the paid amounts of all milestones, times 1000, divided by the sum of their"
            + " amounts, rounded down;");
        Check.due("8 of 15", 533, x.progress());
        EscrowDesk y = Desks.of("deposit 1001; milestone a 1000 1 when approved; milestone b 1 1 when approved;");
        Check.due("0 of 1001", 0, y.progress());
        y.pay(0, 1);
        Check.due("1 of 1001", 0, y.progress());
        y.pay(0, 1);
        Check.due("2 of 1001", 1, y.progress());
        y.pay(0, 998);
        Check.due("1000 of 1001", 999, y.progress());
        y.pay(1, 1);
        Check.due("1001 of 1001", 1000, y.progress());
        EscrowDesk least = Desks.of("deposit 1; milestone a 1 1 when approved;");
        Check.due("0 of 1", 0, least.progress());
        least.pay(0, 1);
        Check.due("1 of 1", 1000, least.progress());
        Document.says(26, "0 without milestones.");
        Check.due("a new object", 0, new EscrowDesk().progress());
        Check.due("deposits alone", 0, Desks.of("deposit 5;").progress());
    }

    private static void graceLeft() {
        Document.says(27, "Returns how many days of the grace period of a due milestone are left.");
        EscrowDesk x = Desks.of("grace 3; milestone a 7 1 when day 2;");
        x.pass(2);
        Check.due("on the due day", 3, x.graceLeft(0));
        x.pass(1);
        Check.due("a day later", 2, x.graceLeft(0));
        Document.says(27, "Returns the due day plus the grace period, minus the present day, but at least 0;");
        x.pass(1);
        Check.due("1", 1, x.graceLeft(0));
        x.pass(1);
        Check.due("0", 0, x.graceLeft(0));
        x.pass(1);
        Check.due("not -1", 0, x.graceLeft(0));
        x.setGrace(4);
        Check.due("4 days since day 2 are over on day 6", 0, x.graceLeft(0));
        x.setGrace(5);
        Check.due("5 are not", 1, x.graceLeft(0));
        x.setGrace(60);
        Check.due("60 are not", 56, x.graceLeft(0));
        x.setGrace(0);
        Check.due("without a grace period", 0, x.graceLeft(0));
        Document.says(27, "NONE if the milestone is not due.");
        x.dispute(0);
        Check.due("disputed", NONE, x.graceLeft(0));
        x.withdraw(0);
        Check.due("open again", NONE, x.graceLeft(0));
        x.cancel(0);
        Check.due("cancelled", NONE, x.graceLeft(0));
        EscrowDesk y = Desks.of("deposit 9; milestone a 7 1 when always; milestone b 1 1 when approved;");
        Check.due("open", NONE, y.graceLeft(0));
        y.pass(1);
        Check.due("paid", NONE, y.graceLeft(0));
        y.dispute(1);
        y.resolve(1, 0);
        Check.due("settled", NONE, y.graceLeft(1));
    }

    private static void proofs() {
        Document.says(28, "Returns the number of different proofs in the text.");
        Check.due("none", 0, new EscrowDesk().proofs());
        Check.due("one, three times", 1, Desks.of("milestone a 1 1 when proof p and proof p; milestone b 1 1 when proof"
            + " p;").proofs());
        EscrowDesk x = Desks.of("milestone a 1 1 when proof p or proof pp or proof q and proof abcdefghi or proof p;");
        Check.due("four", 4, x.proofs());
        Document.says(29, "Tells whether a proof was submitted.");
        Check.due("not yet", false, x.isSubmitted(1));
        x.submit(1);
        Check.due("submitted", true, x.isSubmitted(1));
        Check.due("the one before", false, x.isSubmitted(0));
        Check.due("the one behind", false, x.isSubmitted(2));
        x.undo();
        Check.due("undone", false, x.isSubmitted(1));
        Document.says(29, "Throws `IndexOutOfBoundsException` if there is no such proof");
        Check.due("the last", false, x.isSubmitted(3));
        for (int no : new int[] {-1, 4, 8, 31, 32, Integer.MIN_VALUE, Integer.MAX_VALUE}) {
            Check.noIndex("proof " + no, () -> x.isSubmitted(no) ? 1 : 0);
        }
        Check.noIndex("none of none", () -> new EscrowDesk().isSubmitted(0) ? 1 : 0);
        Document.says(30, "Returns a character of the name of a proof.");
        String[] names = {"p", "pp", "q", "abcdefghi"};
        for (int proof = 0; proof < 4; proof++) {
            for (int index = 0; index < names[proof].length(); index++) {
                Check.due(names[proof], names[proof].charAt(index), x.proofCharacter(proof, index));
            }
        }
        Document.says(30, "- `index`: 0 for the first character");
        Check.due("the first", 'a', x.proofCharacter(3, 0));
        Check.due("the last", 'i', x.proofCharacter(3, 8));
        Document.says(30, "Throws `IndexOutOfBoundsException` if there is no such proof or no such character");
        for (int proof = 0; proof < 4; proof++) {
            int number = proof;
            for (int no : new int[] {-1, names[proof].length(), 9, 12, 13, Integer.MIN_VALUE, Integer.MAX_VALUE}) {
                Check.noIndex(names[proof] + " " + no, () -> x.proofCharacter(number, no));
            }
        }
        for (int no : new int[] {-1, 4, 8, Integer.MIN_VALUE, Integer.MAX_VALUE}) {
            Check.noIndex("proof " + no, () -> x.proofCharacter(no, 0));
            Check.noIndex("neither", () -> x.proofCharacter(no, no));
        }
    }

    private static void wouldHold() {
        Document.says(31, "Tells whether the condition of a milestone would hold now if all milestones of a set were paid (and"
            + " all others were as they are;");
        EscrowDesk x = Desks.of("grace 60; deposit 99; milestone a 9 1 when always; milestone b 9 1 when done a; milestone c 9"
            + " 1 when done a and not done b;"
            + "milestone d 9 1 when done a and day 5 or sum 9;");
        Check.due("none", false, x.wouldHold(1, 0));
        Check.due("a", true, x.wouldHold(1, 1));
        Check.due("c, without b", true, x.wouldHold(2, 1));
        Check.due("c, with b", false, x.wouldHold(2, 3));
        Check.due("now, not on day 5", false, x.wouldHold(3, 1));
        x.pay(0, 9);
        Check.due("a is paid as it is", true, x.wouldHold(1, 0));
        x.dispute(1);
        Check.due("b is disputed as it is", true, x.wouldHold(2, 0));
        x.resolve(1, 0);
        Check.due("b is settled as it is", false, x.wouldHold(2, 0));
        EscrowDesk cancelled = Desks.of("milestone a 9 1 when always; milestone b 9 1 when done a;");
        cancelled.cancel(0);
        Check.due("a is cancelled as it is", false, cancelled.wouldHold(1, 0));
        Check.due("a as if it were paid", true, cancelled.wouldHold(1, 1));
        Check.due("it stays cancelled", 5, cancelled.state(0));
        Document.says(31, "the payments so far stay as they are).");
        EscrowDesk y = Desks.of("deposit 99; milestone a 9 1 when always; milestone b 9 1 when sum 9; milestone c 9 1 when sum"
            + " 0;");
        Check.due("no payment by the set", false, y.wouldHold(1, 7));
        Check.due("sum 0 anyway", true, y.wouldHold(2, 7));
        y.pay(0, 9);
        Check.due("a payment", true, y.wouldHold(1, 0));
        Document.says(31, "- `set`: the set as a number, where milestone k counts 2 to the power k;");
        StringBuilder ten = new StringBuilder();
        for (char name = 'a'; name <= 'i'; name++) {
            ten.append("milestone ").append(name).append(" 5 1 when always;");
        }
        EscrowDesk z = Desks.of(ten + "milestone j 5 1 when done i and not done h or done a;");
        Check.due("i counts 256", true, z.wouldHold(9, 256));
        Check.due("h counts 128", false, z.wouldHold(9, 256 + 128));
        Check.due("a counts 1", true, z.wouldHold(9, 256 + 128 + 1));
        Check.due("all but a, h and i", false, z.wouldHold(9, 1023 - 256 - 128 - 1));
        Check.due("all", true, z.wouldHold(9, 1023));
        Document.says(31, "others than the numbers of milestones must not be in it");
        Check.noArgument("an eleventh", () -> z.wouldHold(9, 1024) ? 1 : 0);
        Check.noArgument("an eleventh and others", () -> z.wouldHold(9, 1024 + 1) ? 1 : 0);
        Check.noArgument("a thirty-second", () -> z.wouldHold(9, Integer.MIN_VALUE + 1) ? 1 : 0);
    }

    private static void dueAt() {
        EscrowDesk x = Desks.of("grace 60; milestone a 1 9 when day 1; milestone b 1 5 when day 2; milestone c 1 9 when day 1;"
            + " milestone d 1 5 when day 1;"
            + "milestone e 1 0 when day 3; milestone f 1 99 when approved;");
        Document.says(33, "NONE if no milestone is due.");
        Check.due("none of six", NONE, x.nextDue());
        Check.due("none of none", NONE, new EscrowDesk().nextDue());
        x.pass(1);
        Document.says(32, "Returns a due milestone by its rank, by priority and number.");
        Check.due("priority 5", 3, x.dueAt(0));
        Check.due("priority 9, the smaller number", 0, x.dueAt(1));
        Check.due("priority 9, the greater number", 2, x.dueAt(2));
        Document.says(32, "- `rank`: 0 for the one that is paid first");
        x.pass(1);
        Check.due("priority 5, the smaller number though due later", 1, x.dueAt(0));
        x.pass(1);
        Check.due("priority 0", 4, x.dueAt(0));
        Check.due("the last", 2, x.dueAt(4));
        Document.says(32, "Throws `IndexOutOfBoundsException` if there are not so many due milestones");
        for (int no : new int[] {-1, 5, 6, 10, Integer.MIN_VALUE, Integer.MAX_VALUE}) {
            Check.noIndex("rank " + no, () -> x.dueAt(no));
        }
        x.dispute(4);
        Check.due("now four are due", 2, x.dueAt(3));
        Check.noIndex("no fifth", () -> x.dueAt(4));
        Check.noIndex("no first of none", () -> new EscrowDesk().dueAt(0));
        Document.says(33, "Returns the number of the due milestone that would be paid first if all due milestones were paid"
            + " now, by priority and number.");
        Check.due("without the disputed one", 1, x.nextDue());
        x.cancel(1);
        Check.due("without a cancelled one", 3, x.nextDue());
        Document.says(33, "Returns the number;");
        x.cancel(3);
        Check.due("number 0", 0, x.nextDue());
        x.cancel(0);
        Check.due("number 2", 2, x.nextDue());
        Document.says(33, "NONE if no milestone is due.");
        x.cancel(2);
        Check.due("one is disputed, one is open", NONE, x.nextDue());
    }

    private static void shortage() {
        Document.says(34, "Returns the sum of the remaining amounts of all milestones, minus the principal, if that is greater"
            + " than 0;");
        EscrowDesk x = Desks.of("deposit 89; milestone a 40 1 when approved; milestone b 50 1 when approved;");
        Check.due("90 without 89", 1, x.shortage());
        x.dispute(0);
        Check.due("the principal, not the available money", 1, x.shortage());
        x.pay(1, 5);
        Check.due("85 without 84", 1, x.shortage());
        Document.says(34, "otherwise 0.");
        x.deposit(1);
        Check.due("85 without 85", 0, x.shortage());
        x.deposit(1);
        Check.due("85 without 86", 0, x.shortage());
        x.resolve(0, 0);
        Check.due("45 without 46: a closed one has no remaining amount", 0, x.shortage());
        Check.due("nothing at all", 0, new EscrowDesk().shortage());
        StringBuilder ten = new StringBuilder();
        for (char name = 'a'; name <= 'j'; name++) {
            ten.append("milestone ").append(name).append(" 99999 1 when always;");
        }
        Check.due("the greatest", 999990, Desks.of(ten.toString()).shortage());
    }

    private static void write() {
        Document.says(56, "Writes a milestone to the output, in place of what the output has: its name, a space, the word for"
            + " its state");
        EscrowDesk x = Desks.of("deposit 99999; deposit 99999; grace 60; milestone z 99999 1 when day 1; milestone abcdefghi 1"
            + " 1 when approved;");
        Check.due("open", "z open 0/99999", Desks.line(x, 0));
        Check.due("the greatest name, the smallest amount", "abcdefghi open 0/1", Desks.line(x, 1));
        x.pay(1, 1);
        Check.due("paid", "abcdefghi paid 1/1", Desks.line(x, 1));
        x.undo();
        x.cancel(1);
        Check.due("cancelled", "abcdefghi cancelled 0/1", Desks.line(x, 1));
        Document.says(56, "if it is due, then \" since \" and its due day;");
        x.pass(10);
        Check.due("due", "z due 0/99999 since 1", Desks.line(x, 0));
        Document.says(56, "if it is disputed, then \" frozen \" and the frozen amount.");
        x.dispute(0);
        Check.due("disputed", "z disputed 0/99999 frozen 99999", Desks.line(x, 0));
        x.withdraw(0);
        Check.due("open, though it was due and disputed", "z open 0/99999", Desks.line(x, 0));
        x.dispute(0);
        x.resolve(0, 999);
        Check.due("settled", "z settled 99899/99999", Desks.line(x, 0));
        EscrowDesk poor = Desks.of("milestone z 7 1 when approved;");
        poor.dispute(0);
        Check.due("nothing frozen", "z disputed 0/7 frozen 0", Desks.line(poor, 0));
        EscrowDesk late = ErrorBoundaries.onTheLastDay();
        late.undo();
        late.approve(0);
        late.pass(39);
        Check.due("a late day, paid in part", "a due 40/60 since 9961", Desks.line(late, 0));
        Document.says(56, "Returns the number of characters.");
        Check.due("z settled 99899/99999", 21, x.write(0));
        Check.due("abcdefghi cancelled 0/1", 23, x.write(1));
    }

    private static void written() {
        EscrowDesk x = Desks.of("deposit 9; milestone abc 7 1 when approved;");
        Document.says(57, "Throws `IndexOutOfBoundsException` if there is no such character, or nothing was written yet");
        for (int no : new int[] {0, -1, 1, Integer.MIN_VALUE, Integer.MAX_VALUE}) {
            Check.noIndex("nothing was written: " + no, () -> x.written(no));
        }
        Check.noIndex("a write() that throws", () -> x.write(1));
        Check.noIndex("writes nothing", () -> x.written(0));
        Check.due("abc open 0/7", 12, x.write(0));
        for (int no : new int[] {-1, 12, 13, Integer.MIN_VALUE, Integer.MAX_VALUE}) {
            Check.noIndex("no character " + no, () -> x.written(no));
        }
        Document.says(57, "Returns a character of the output.");
        String line = "abc open 0/7";
        for (int k = 0; k < line.length(); k++) {
            Check.due(line + " " + k, line.charAt(k), x.written(k));
        }
        Document.says(57, "- `k`: index, from 0");
        Check.due("the first", 'a', x.written(0));
        Check.due("the last", '7', x.written(11));
        x.pay(0, 7);
        Check.due("the output stays as it was written", 'o', x.written(4));
        Check.noIndex("a write() that throws", () -> x.write(-1));
        Check.due("leaves the output", 'o', x.written(4));
        x.write(0);
        Check.due("the next one takes its place", 'p', x.written(4));
    }

    private static void entries() {
        Document.says(58, "Returns the number of entries that are kept.");
        EscrowDesk x = new EscrowDesk();
        Check.due("none", 0, x.entries());
        x.deposit(1);
        Check.due("one", 1, x.entries());
        for (int amount = 2; amount <= 59; amount++) {
            x.deposit(amount);
        }
        Check.due("59", 59, x.entries());
        x.pass(1);
        x.deposit(60);
        Check.due("60", 60, x.entries());
        Document.says(59, "- `entry`: index, 0 for the oldest entry that is kept");
        Check.due("the oldest of 60", 1, x.entry(0, 2));
        Check.due("the latest of 60", 60, x.entry(59, 2));
        x.deposit(61);
        Document.says(58, "Returns the number of entries that are kept.");
        Check.due("60 of 61", 60, x.entries());
        Document.says(59, "- `entry`: index, 0 for the oldest entry that is kept");
        Check.due("the oldest of 61", 2, x.entry(0, 2));
        Check.due("the latest of 61", 61, x.entry(59, 2));
        Document.says(59, "Returns a part of an entry.");
        Check.due("kind", 0, x.entry(59, 0));
        Check.due("day", 1, x.entry(59, 1));
        Check.due("amount", 61, x.entry(59, 2));
        Check.due("milestone", NONE, x.entry(59, 3));
        EscrowDesk y = Desks.of("deposit 9; milestone a 1 1 when approved; milestone b 5 1 when day 4;");
        y.pass(4);
        Document.says(59, "- `what`: 0 for the kind, 1 for the day, 2 for the amount, 3 for the milestone");
        Check.due("0", 1, y.entry(1, 0));
        Check.due("1", 4, y.entry(1, 1));
        Check.due("2", 5, y.entry(1, 2));
        Check.due("3", 1, y.entry(1, 3));
        Document.says(59, "Throws `IndexOutOfBoundsException` if there is no such entry");
        for (int no : new int[] {-1, 60, 61, Integer.MIN_VALUE, Integer.MAX_VALUE}) {
            Check.noIndex("entry " + no + " of 60", () -> x.entry(no, 0));
        }
        Check.noIndex("entry 2 of 2", () -> y.entry(2, 0));
        Check.noIndex("entry 0 of none", () -> new EscrowDesk().entry(0, 0));
    }

    private static void totals() {
        Document.says(60, "Returns the sum of the amounts of all kept entries of a day and a kind.");
        EscrowDesk x = Desks.of("rate 3000 360; deposit 1000; milestone a 9 1 when approved; milestone b 9 1 when approved;"
            + " deposit 1;");
        x.pass(29);
        x.pay(0, 2);
        x.pass(1);
        x.pay(0, 3);
        x.pay(1, 4);
        x.dispute(0);
        x.resolve(0, 500);
        x.payInterest(7);
        x.payInterest(8);
        Check.due("deposits", 1001, x.totalOn(0, 0));
        Check.due("payments", 3 + 4 + 2, x.totalOn(30, 1));
        Check.due("payments a day before", 2, x.totalOn(29, 1));
        Check.due("payments a day later", 0, x.totalOn(31, 1));
        Check.due("refunds", 2, x.totalOn(30, 2));
        Check.due("credits", 25, x.totalOn(30, 3));
        Check.due("payouts", 15, x.totalOn(30, 4));
        Document.says(60, "- `kind`: 0 to 4");
        Check.due("kind 0 of that day", 0, x.totalOn(30, 0));
        Check.due("kind 4 of day 0", 0, x.totalOn(0, 4));
        Document.says(60, "Returns the sum of the amounts of all kept entries of a day and a kind.");
        for (int day : new int[] {-1, 9999, 10000, Integer.MIN_VALUE, Integer.MAX_VALUE}) {
            Check.due("day " + day, 0, x.totalOn(day, 0));
        }
        EscrowDesk y = Desks.of("deposit 1000;");
        for (int deposits = 1; deposits <= 59; deposits++) {
            y.deposit(1);
        }
        Check.due("60 entries", 1059, y.totalOn(0, 0));
        y.deposit(1);
        Check.due("61 entries: the first is not kept", 60, y.totalOn(0, 0));
    }

    private static void busiestDay() {
        Document.says(61, "Returns the day with the greatest sum of the amounts of its kept payments (kind 1), the earliest of"
            + " several;");
        EscrowDesk x = Desks.of("deposit 1000; milestone a 500 1 when approved; milestone b 9 1 when approved;");
        x.pay(0, 5);
        Check.due("day 0", 0, x.busiestDay());
        x.pass(1);
        x.pay(0, 4);
        x.deposit(500);
        x.dispute(1);
        x.resolve(1, 0);
        Check.due("4 are fewer, and deposits and refunds do not count", 0, x.busiestDay());
        x.pay(0, 1);
        Check.due("5 are as many: the earliest", 0, x.busiestDay());
        x.pay(0, 1);
        Check.due("6 are more", 1, x.busiestDay());
        x.pass(1);
        x.pay(0, 6);
        Check.due("6 again", 1, x.busiestDay());
        for (int deposits = 0; deposits < 52; deposits++) {
            x.deposit(1);
        }
        Check.due("60 entries are kept", 60, x.entries());
        Check.due("the payments of day 1 are kept", 1, x.busiestDay());
        x.deposit(1);
        x.deposit(1);
        x.deposit(1);
        Check.due("now 4 of its 6 are not: day 2", 2, x.busiestDay());
        EscrowDesk one = Desks.of("deposit 1000; milestone a 500 1 when approved;");
        one.pass(7);
        one.pay(0, 1);
        Check.due("a payment of 1", 7, one.busiestDay());
        for (int deposits = 0; deposits < 59; deposits++) {
            one.deposit(1);
        }
        Check.due("it is the oldest of 60 entries", 7, one.busiestDay());
        one.deposit(1);
        Check.due("it is not kept", NONE, one.busiestDay());
        Document.says(61, "NONE if there are none.");
        Check.due("a new object", NONE, new EscrowDesk().busiestDay());
        Check.due("a deposit", NONE, Desks.of("deposit 5;").busiestDay());
        for (int deposits = 0; deposits < 60; deposits++) {
            x.deposit(1);
        }
        Check.due("no payment is kept", NONE, x.busiestDay());
    }
}
