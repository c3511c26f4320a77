import java.util.ArrayList;
import java.util.List;

/** The clauses of ERRORS AND EDITS and the constants. That refused calls change nothing is looked at by Refusals, too. */
final class ErrorBoundaries {
    private static final String SECTION = "ERRORS AND EDITS";
    private static final int[] BELOW_AND_BEHIND = {-1, Integer.MIN_VALUE, Integer.MAX_VALUE};

    private ErrorBoundaries() {
    }

    static void run() {
        Check.parts(ErrorBoundaries::constants, ErrorBoundaries::whatDoesNotExist,
            ErrorBoundaries::indexIsCheckedFirst, ErrorBoundaries::outOfRange, ErrorBoundaries::rangeIsCheckedNext,
            ErrorBoundaries::notPossible, ErrorBoundaries::refusedCallsChangeNothing, ErrorBoundaries::whatAnEditIs,
            ErrorBoundaries::editsThatChangedNothing, ErrorBoundaries::tenEdits, ErrorBoundaries::loadForgets);
    }

    private static void constants() {
        Document.says("CONSTANTS", "- `NONE = -1`: There is no such thing.");
        Check.due("NONE", -1, EscrowDesk.NONE);
        Check.due("no error position", -1, new EscrowDesk().errorPosition());
        Document.says("CONSTANTS", "- `FULL = -2`: The buffer is full.");
        Check.due("FULL", -2, EscrowDesk.FULL);
        EscrowDesk x = new EscrowDesk();
        Desks.feed(x, " ".repeat(700));
        Check.due("a full buffer", -2, x.feed(1, 2, 3, 4, 5));
        Document.says("CONSTANTS", "- `BAD_TEXT = -3`: The text is not legal.");
        Check.due("BAD_TEXT", -3, EscrowDesk.BAD_TEXT);
        Check.due("a bad text", -3, Desks.load(new EscrowDesk(), "?"));
    }

    /** Two milestones, the second one disputed; a proof; an entry. */
    private static EscrowDesk two() {
        EscrowDesk x = Desks.of("deposit 100; milestone a 60 1 when proof abc; milestone b 60 1 when approved;");
        x.dispute(1);
        return x;
    }

    private static void whatDoesNotExist() {
        Document.says(SECTION, "A milestone, proof, entry or index that does not exist throws IndexOutOfBoundsException;");
        EscrowDesk x = two();
        x.write(0);
        int length = x.write(1);
        for (int no : BELOW_AND_BEHIND) {
            Check.noIndex("milestone " + no, () -> x.state(no));
            Check.noIndex("proof " + no, () -> x.isSubmitted(no) ? 1 : 0);
            Check.noIndex("letter " + no, () -> x.proofCharacter(0, no));
            Check.noIndex("entry " + no, () -> x.entry(no, 0));
            Check.noIndex("index " + no, () -> x.written(no));
            Check.noIndex("rank " + no, () -> x.dueAt(no));
        }
        Check.due("milestone 1", 2, x.state(1));
        Check.noIndex("milestone 2", () -> x.state(2));
        Check.due("proof 0", false, x.isSubmitted(0));
        Check.noIndex("proof 1", () -> x.isSubmitted(1) ? 1 : 0);
        Check.due("letter 2", 'c', x.proofCharacter(0, 2));
        Check.noIndex("letter 3", () -> x.proofCharacter(0, 3));
        Check.due("entry 0", 0, x.entry(0, 0));
        Check.noIndex("entry 1", () -> x.entry(1, 0));
        Check.due("the last index", '0', x.written(length - 1));
        Check.noIndex("the index behind it", () -> x.written(length));
    }

    private static void indexIsCheckedFirst() {
        Document.says(SECTION, "this is checked first.");
        EscrowDesk x = two();
        for (int no : new int[] {-1, 2, Integer.MIN_VALUE, Integer.MAX_VALUE}) {
            Check.noIndex("wouldHold", () -> x.wouldHold(no, -1) ? 1 : 0);
            Check.noIndex("wouldHold", () -> x.wouldHold(no, 4) ? 1 : 0);
            Check.noIndex("paidAfter", () -> x.paidAfter(no, 0));
            Check.noIndex("paidAfter", () -> x.paidAfter(no, 121));
            Check.noIndex("splitPayment", () -> x.splitPayment(no, -1));
            Check.noIndex("splitPayment", () -> x.splitPayment(no, 1001));
            Check.noIndex("shareFor", () -> x.shareFor(no, -1));
            Check.noIndex("shareFor", () -> x.shareFor(no, 100000));
            Check.noIndex("pay", () -> x.pay(no, 0));
            Check.noIndex("pay", () -> x.pay(no, Integer.MAX_VALUE));
            Check.noIndex("resolve", () -> x.resolve(no, -1));
            Check.noIndex("resolve", () -> x.resolve(no, 1001));
            Check.noIndex("entry", () -> x.entry(no, -1));
            Check.noIndex("entry", () -> x.entry(no, 4));
        }
    }

    private static void outOfRange() {
        Document.says(SECTION, "A parameter that is out of its range throws IllegalArgumentException;");
        EscrowDesk x = two();
        Check.noArgument("load", () -> x.load(1));
        Check.noArgument("wouldHold", () -> x.wouldHold(0, 4) ? 1 : 0);
        Check.noArgument("paymentsAfter", () -> x.paymentsAfter(121));
        Check.noArgument("paidAfter", () -> x.paidAfter(0, 121));
        Check.noArgument("creditedAfter", () -> x.creditedAfter(121));
        Check.noArgument("splitPayment", () -> x.splitPayment(1, 1001));
        Check.noArgument("shareFor", () -> x.shareFor(1, 100000));
        Check.noArgument("shortDay", () -> x.shortDay(121));
        Check.noArgument("deposit", () -> x.deposit(100000));
        Check.noArgument("pay", () -> x.pay(0, 61));
        Check.noArgument("resolve", () -> x.resolve(1, 1001));
        Check.noArgument("payInterest", () -> x.payInterest(1));
        Check.noArgument("setRate", () -> x.setRate(3001, 360));
        Check.noArgument("setRate", () -> x.setRate(3000, 361));
        Check.noArgument("setGrace", () -> x.setGrace(61));
        Check.noArgument("pass", () -> x.pass(121));
        Check.noArgument("entry", () -> x.entry(0, 4));
        Check.noArgument("totalOn", () -> x.totalOn(0, 5));
        Check.due("a day of totalOn has no range", 0, x.totalOn(Integer.MIN_VALUE, 0) + x.totalOn(Integer.MAX_VALUE, 4));
    }

    private static void rangeIsCheckedNext() {
        Document.says(SECTION, "this is checked next.");
        EscrowDesk x = two();
        for (int share : new int[] {-1, 1001, Integer.MIN_VALUE, Integer.MAX_VALUE}) {
            Check.noArgument("splitPayment of an open one", () -> x.splitPayment(0, share));
            Check.noArgument("resolve of an open one", () -> x.resolve(0, share));
        }
        Check.noArgument("shareFor of an open one", () -> x.shareFor(0, -1));
        Check.noArgument("shareFor of an open one", () -> x.shareFor(0, 100000));
        Check.noArgument("pay of a disputed one", () -> x.pay(1, 0));
        Check.noArgument("pay of a disputed one", () -> x.pay(1, 61));
        Check.noArgument("pay of more than remains and than is available", () -> x.pay(0, 61));
        EscrowDesk closed = Desks.of("milestone a 60 1 when always;");
        closed.cancel(0);
        Check.noArgument("pay of a closed one: nothing remains", () -> closed.pay(0, 1));
        Check.noArgument("resolve of a closed one", () -> closed.resolve(0, 1001));
        EscrowDesk full = fullOfDeposits();
        Check.noArgument("deposit at the limit", () -> full.deposit(0));
        Check.noArgument("deposit at the limit", () -> full.deposit(100000));
        EscrowDesk late = onTheLastDay();
        Check.noArgument("pass on the last day", () -> late.pass(0));
        Check.noArgument("pass on the last day", () -> late.pass(121));
    }

    static EscrowDesk fullOfDeposits() {
        EscrowDesk x = Desks.of("milestone a 60 1 when approved;");
        for (int deposits = 0; deposits < 100; deposits++) {
            x.deposit(99999);
        }
        x.deposit(99);
        return x;
    }

    static EscrowDesk onTheLastDay() {
        EscrowDesk x = Desks.of("rate 3000 360; deposit 40; milestone a 60 1 when approved;");
        for (int passes = 0; passes < 83; passes++) {
            x.pass(120);
        }
        x.pass(39);
        return x;
    }

    private static void notPossible() {
        Document.says(SECTION, "What is not possible in the present state throws IllegalStateException.");
        EscrowDesk x = two();
        Check.noState("splitPayment of an open one", () -> x.splitPayment(0, 500));
        Check.noState("shareFor of an open one", () -> x.shareFor(0, 5));
        Check.noState("pay of a disputed one", () -> x.pay(1, 1));
        Check.noState("pay of more than is available", () -> x.pay(0, 41));
        Check.noState("dispute of a disputed one", () -> x.dispute(1));
        Check.noState("withdraw of an open one", () -> x.withdraw(0));
        Check.noState("resolve of an open one", () -> x.resolve(0, 500));
        Check.noState("cancel of a disputed one", () -> x.cancel(1));
        Check.noState("close with open ones", () -> x.close());
        x.cancel(0);
        Check.noState("approve of a closed one", () -> x.approve(0) ? 1 : 0);
        EscrowDesk full = fullOfDeposits();
        Check.noState("deposit beyond the limit", () -> full.deposit(1));
        EscrowDesk late = onTheLastDay();
        Check.noState("pass beyond the last day", () -> late.pass(1));
    }

    private static void refusedCallsChangeNothing() {
        Document.says(SECTION, "A call that throws an exception changes nothing.");
        Refusals.run();
    }

    /** An edit of each kind, in an order in which all are possible; the object is new before the first. */
    private static List<Check.Call> edits(EscrowDesk x) {
        List<Check.Call> edits = new ArrayList<>();
        edits.add(() -> x.pass(30));
        edits.add(() -> x.deposit(7));
        edits.add(() -> x.submit(0) ? 1 : 0);
        edits.add(() -> x.approve(0) ? 1 : 0);
        edits.add(() -> x.pay(0, 9));
        edits.add(() -> x.dispute(0));
        edits.add(() -> x.withdraw(0));
        edits.add(() -> x.cancel(0));
        edits.add(() -> x.payInterest(1));
        edits.add(() -> x.setRate(5, 365));
        edits.add(() -> x.setGrace(5));
        edits.add(() -> x.dispute(1));
        edits.add(() -> x.resolve(1, 500));
        edits.add(() -> x.close());
        return edits;
    }

    private static void whatAnEditIs() {
        Document.says(SECTION, "Edits are the methods deposit, submit, approve, pay, dispute, withdraw, resolve, cancel,"
            + " payInterest,");
        EscrowDesk x = Desks.of("rate 3000 360; deposit 1000; milestone a 60 1 when proof p; milestone b 60 1 when approved;");
        int number = 0;
        for (Check.Call edit : edits(x)) {
            String before = Story.now(x);
            edit.answer();
            Check.due("edit " + number + " is remembered", Math.min(number, 9), x.undo());
            Check.due("edit " + number + " is undone", before, Story.now(x));
            edit.answer();
            number++;
        }
        Check.due("all thirteen, one of them twice", 14, number);
        // Nothing else is an edit, not even what changes the buffer or the output.
        EscrowDesk y = Desks.of("deposit 100; milestone a 60 1 when proof p;");
        y.feed(0x3f3f3f3f, 0x20202020, 0x20202020, 0x20202020, 0x20202020);
        y.write(0);
        Story.now(y);
        Desks.load(y, "?");
        Check.due("undo of no edit", EscrowDesk.NONE, y.undo());
        y.setGrace(5);
        y.write(0);
        Story.now(y);
        Desks.load(y, "?");
        Check.due("undo of the one edit", 0, y.undo());
    }

    private static void editsThatChangedNothing() {
        Document.says(SECTION, "Every successful edit can be undone, also if it changed nothing.");
        EscrowDesk x = Desks.of("rate 7 365; grace 9; milestone a 60 1 when proof p or approved;");
        x.submit(0);
        x.approve(0);
        List<Check.Call> idle = List.of(() -> x.submit(0) ? 1 : 0, () -> x.approve(0) ? 1 : 0, () -> x.setRate(7, 365),
            () -> x.setGrace(9));
        int remembered = 2;
        for (Check.Call edit : idle) {
            String before = Story.now(x);
            edit.answer();
            remembered++;
            Check.due("idle edit " + remembered + " changed nothing", before, Story.now(x));
        }
        for (int left = remembered - 1; left >= 0; left--) {
            Check.due("left", left, x.undo());
        }
        Check.due("none is left", EscrowDesk.NONE, x.undo());
        Check.due("the first ones were undone, too", false, x.isSubmitted(0));
        EscrowDesk y = new EscrowDesk();
        y.close();
        y.close();
        Check.due("close() of nothing", 1, y.undo());
        Check.due("once more", 0, y.undo());
        Check.due("no third", EscrowDesk.NONE, y.undo());
    }

    private static void tenEdits() {
        Document.says(SECTION, "At most 10 edits are remembered.");
        for (int edits = 1; edits <= 25; edits++) {
            EscrowDesk x = new EscrowDesk();
            for (int amount = 1; amount <= edits; amount++) {
                x.deposit(amount);
            }
            int remembered = Math.min(edits, 10);
            for (int left = remembered - 1; left >= 0; left--) {
                Check.due("left of " + edits, left, x.undo());
                int deposits = edits - remembered + left;
                Check.due("principal with " + deposits + " deposits", deposits * (deposits + 1) / 2, x.principal());
            }
            Check.due("none is left of " + edits, EscrowDesk.NONE, x.undo());
            int kept = edits - remembered;
            Check.due("the forgotten ones stay", kept * (kept + 1) / 2, x.principal());
        }
        // What was undone makes room again.
        EscrowDesk y = new EscrowDesk();
        for (int amount = 1; amount <= 10; amount++) {
            y.deposit(amount);
        }
        y.undo();
        y.undo();
        y.deposit(100);
        Check.due("eight and a new one", 8, y.undo());
        y.deposit(100);
        y.deposit(100);
        y.deposit(100);
        Check.due("the tenth but one", 9, y.undo());
        for (int left = 8; left >= 0; left--) {
            Check.due("left", left, y.undo());
        }
        Check.due("the first deposit was forgotten", 1, y.principal());
    }

    private static void loadForgets() {
        Document.says(SECTION, "A successful load() forgets all edits.");
        EscrowDesk x = new EscrowDesk();
        x.deposit(5);
        x.deposit(6);
        Check.due("a bad text", EscrowDesk.BAD_TEXT, Desks.load(x, "deposit 0;"));
        Check.noArgument("a load() that throws", () -> x.load(1));
        Check.due("they forget nothing", 1, x.undo());
        Check.due("only the second deposit was undone", 5, x.principal());
        Check.due("a good text", 0, Desks.load(x, "deposit 9;"));
        Check.due("nothing can be undone", EscrowDesk.NONE, x.undo());
        Check.due("the text stays", 9, x.principal());
        x.deposit(1);
        x.load(0);
        Check.due("an empty text forgets, too", EscrowDesk.NONE, x.undo());
        Check.due("the empty text stays", 0, x.principal());
        for (int amount = 1; amount <= 15; amount++) {
            x.deposit(amount);
        }
        x.load(0);
        x.deposit(7);
        Check.due("only what came behind it", 0, x.undo());
        Check.due("no more", EscrowDesk.NONE, x.undo());
    }
}
