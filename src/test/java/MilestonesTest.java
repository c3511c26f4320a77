/** Promises 16 to 34: what the milestones, the proofs and the conditions tell. */
final class MilestonesTest {
    private static final int[] NO_SUCH = {-1, 2, 3, 10, 11, Integer.MIN_VALUE, Integer.MAX_VALUE};

    public static void main(String[] args) {
        Check.parts(MilestonesTest::wrongMilestones, MilestonesTest::statesAndAmounts, MilestonesTest::dueDays,
            MilestonesTest::conditions, MilestonesTest::precedence, MilestonesTest::deepConditions,
            MilestonesTest::dayByClock, MilestonesTest::missingProofs, MilestonesTest::counts,
            MilestonesTest::graceLeft, MilestonesTest::proofs, MilestonesTest::wouldHold, MilestonesTest::dueRanks,
            MilestonesTest::shortage, MilestonesTest::tenMilestones);
        Check.end("MilestonesTest");
    }

    private static void wrongMilestones() {
        EscrowDesk x = Desks.of("milestone a 5 1 when always; milestone b 6 1 when proof p or proof q;");
        for (int no : NO_SUCH) {
            Check.noIndex("state", () -> x.state(no));
            Check.noIndex("paid", () -> x.paid(no));
            Check.noIndex("remaining", () -> x.remaining(no));
            Check.noIndex("frozen", () -> x.frozen(no));
            Check.noIndex("dueDay", () -> x.dueDay(no));
            Check.noIndex("holds", () -> x.holds(no) ? 1 : 0);
            Check.noIndex("dayByClock", () -> x.dayByClock(no));
            Check.noIndex("missingProofs", () -> x.missingProofs(no));
            Check.noIndex("graceLeft", () -> x.graceLeft(no));
            Check.noIndex("isSubmitted", () -> x.isSubmitted(no) ? 1 : 0);
            Check.noIndex("proofCharacter", () -> x.proofCharacter(no, 0));
            Check.noIndex("wouldHold", () -> x.wouldHold(no, 0) ? 1 : 0);
            Check.noIndex("wouldHold of a wrong set", () -> x.wouldHold(no, -1) ? 1 : 0);
            Check.noIndex("dueAt", () -> x.dueAt(no));
        }
        EscrowDesk y = new EscrowDesk();
        Check.noIndex("state of a new object", () -> y.state(0));
        Check.noIndex("isSubmitted of a new object", () -> y.isSubmitted(0) ? 1 : 0);
        Check.noIndex("proofCharacter of a new object", () -> y.proofCharacter(0, 0));
        Check.noIndex("dueAt of a new object", () -> y.dueAt(0));
    }

    private static void statesAndAmounts() {
        EscrowDesk x = Desks.of("deposit 100; milestone a 50 1 when day 2; milestone b 40 1 when approved;"
            + "milestone c 30 1 when approved; grace 4;");
        Check.due("milestones", 3, x.milestones());
        Check.due("open", 0, x.state(0));
        Check.due("remaining at first", 50, x.remaining(0));
        x.pay(0, 20);
        Check.due("still open after a part", 0, x.state(0));
        Check.due("paid part", 20, x.paid(0));
        Check.due("remaining part", 30, x.remaining(0));
        x.pass(2);
        Check.due("due", 1, x.state(0));
        x.pay(0, 29);
        Check.due("still due after a part", 1, x.state(0));
        x.pay(0, 1);
        Check.due("paid", 3, x.state(0));
        Check.due("paid amount", 50, x.paid(0));
        Check.due("nothing remains", 0, x.remaining(0));
        x.dispute(1);
        Check.due("disputed", 2, x.state(1));
        Check.due("frozen", 40, x.frozen(1));
        Check.due("a disputed one has its remaining amount", 40, x.remaining(1));
        x.resolve(1, 500);
        Check.due("settled", 4, x.state(1));
        Check.due("paid by the split", 20, x.paid(1));
        Check.due("nothing remains after a split", 0, x.remaining(1));
        Check.due("nothing is frozen after a split", 0, x.frozen(1));
        x.pay(2, 3);
        x.cancel(2);
        Check.due("cancelled", 5, x.state(2));
        Check.due("paid stays when cancelled", 3, x.paid(2));
        Check.due("nothing remains when cancelled", 0, x.remaining(2));

        EscrowDesk y = Desks.of("deposit 20; milestone a 20 1 when approved;");
        y.dispute(0);
        y.resolve(0, 1000);
        Check.due("settled, not paid, though all was paid", 4, y.state(0));
        Check.due("all was paid", 20, y.paid(0));
    }

    private static void dueDays() {
        EscrowDesk x = Desks.of("deposit 5; milestone a 50 1 when day 2; grace 60;");
        Check.due("never due", EscrowDesk.NONE, x.dueDay(0));
        x.pass(5);
        Check.due("due day", 2, x.dueDay(0));
        x.dispute(0);
        Check.due("due day of a disputed one", 2, x.dueDay(0));
        x.withdraw(0);
        Check.due("due day of an open one", 2, x.dueDay(0));
        x.pass(3);
        Check.due("due again", 6, x.dueDay(0));
        x.cancel(0);
        Check.due("due day of a cancelled one", 6, x.dueDay(0));
    }

    private static void conditions() {
        EscrowDesk x = Desks.of("deposit 100; milestone a 10 1 when always; milestone b 20 1 when day 3;"
            + "milestone c 30 1 when proof p; milestone d 10 1 when done a; milestone e 10 1 when sum 15;"
            + "milestone f 10 1 when approved; milestone g 10 1 when not approved; grace 60; fee 2000;");
        Check.due("always", true, x.holds(0));
        Check.due("day", false, x.holds(1));
        x.pass(2);
        Check.due("the day before", false, x.holds(1));
        x.pass(1);
        Check.due("the day itself", true, x.holds(1));
        x.pass(1);
        Check.due("a later day", true, x.holds(1));
        Check.due("proof", false, x.holds(2));
        x.submit(0);
        Check.due("proof submitted", true, x.holds(2));
        x.pay(0, 9);
        Check.due("done with a part", false, x.holds(3));
        x.pay(0, 1);
        Check.due("done", true, x.holds(3));
        Check.due("holds for a closed one, too", true, x.holds(0));
        x.pay(1, 4);
        Check.due("sum of 14", false, x.holds(4));
        x.pay(1, 1);
        Check.due("sum of 15 with the fees", true, x.holds(4));
        Check.due("the fees are in that sum", 1, x.fees());
        Check.due("approved", false, x.holds(5));
        x.approve(6);
        Check.due("only this milestone is approved", false, x.holds(5));
        Check.due("not", false, x.holds(6));
        x.approve(5);
        Check.due("approved then", true, x.holds(5));

        EscrowDesk y = Desks.of("deposit 9; milestone a 4 1 when approved; milestone b 5 1 when done a; milestone c 1 1 when done b;");
        y.cancel(0);
        Check.due("a cancelled one is not done", false, y.holds(1));
        y.dispute(1);
        Check.due("a disputed one is not done", false, y.holds(2));
        y.resolve(1, 0);
        Check.due("a settled one is done, whatever was paid", true, y.holds(2));
    }

    private static boolean holds(String condition, int submitted) {
        EscrowDesk x = Desks.of("milestone z 1 1 when proof a or proof b or proof c; milestone a 1 1 when " + condition + ";");
        for (int proof = 0; proof < 3; proof++) {
            if ((submitted & 1 << proof) != 0) {
                x.submit(proof);
            }
        }
        return x.holds(1);
    }

    private static void precedence() {
        for (int set = 0; set < 8; set++) {
            boolean a = (set & 1) != 0;
            boolean b = (set & 2) != 0;
            boolean c = (set & 4) != 0;
            Check.due("a or b and c " + set, a || b && c, holds("proof a or proof b and proof c", set));
            Check.due("a and b or c " + set, a && b || c, holds("proof a and proof b or proof c", set));
            Check.due("(a or b) and c " + set, (a || b) && c, holds("(proof a or proof b) and proof c", set));
            Check.due("a and (b or c) " + set, a && (b || c), holds("proof a and (proof b or proof c)", set));
            Check.due("not a or b " + set, !a || b, holds("not proof a or proof b", set));
            Check.due("not a and b " + set, !a && b, holds("not proof a and proof b", set));
            Check.due("not (a and b) " + set, !(a && b), holds("not(proof a and proof b)", set));
            Check.due("not not a and not (b or not c) " + set, a && !(b || !c),
                holds("not not proof a and not(proof b or not proof c)", set));
            Check.due("a or b or c " + set, a || b || c, holds("proof a or proof b or proof c", set));
            Check.due("a and b and c " + set, a && b && c, holds("proof a and proof b and proof c", set));
        }
    }

    /** As many answers waiting at once as the grammar allows: two in each of the brackets. */
    private static void deepConditions() {
        StringBuilder deep = new StringBuilder();
        for (int level = 0; level < 8; level++) {
            deep.append("proof a or proof b and (");
        }
        deep.append("proof a or proof b and proof c").append("))))))))");
        for (int set = 0; set < 8; set++) {
            boolean a = (set & 1) != 0;
            boolean b = (set & 2) != 0;
            boolean c = (set & 4) != 0;
            Check.due("deep " + set, a || b && c, holds(deep.toString(), set));
            Check.due("deep, always first " + set, true, holds("always or not always and " + deep, set));
        }
        StringBuilder wide = new StringBuilder("milestone a 1 1 when not day 3");
        while (wide.length() < 690) {
            wide.append("or day3");
        }
        wide.append(';');
        EscrowDesk x = Desks.of(wide.toString());
        Check.due("a wide condition", true, x.holds(0));
        String longest = "milestone a 1 1 when day 5" + "or day 7".repeat(80) + ";";
        Check.due("a longer one by the clock", 5, Desks.of(longest).dayByClock(0));
    }

    private static int clock(String condition, int days) {
        EscrowDesk x = Desks.of("milestone a 1 1 when " + condition + ";");
        for (int passed = 0; passed < days; passed += 50) {
            x.pass(50);
        }
        return x.dayByClock(0);
    }

    private static void dayByClock() {
        Check.due("today", 0, clock("always", 0));
        Check.due("today, later", 100, clock("day 5", 100));
        Check.due("day 400", 400, clock("day 400", 0));
        Check.due("day 401", EscrowDesk.NONE, clock("day 401", 0));
        Check.due("day 450 on day 50", 450, clock("day 450", 50));
        Check.due("day 451 on day 50", EscrowDesk.NONE, clock("day 451", 50));
        Check.due("day 999 on day 600", 999, clock("day 999", 600));
        Check.due("not in time", EscrowDesk.NONE, clock("not day 5", 50));
        Check.due("still in time", 0, clock("not day 5", 0));
        Check.due("a window", 70, clock("day 70 and not day 80", 50));
        Check.due("a window that is over", EscrowDesk.NONE, clock("day 70 and not day 80", 100));
        Check.due("the earlier of two, told later", 60, clock("day 90 or day 60", 50));
        Check.due("two at once", 90, clock("day 60 and day 90", 50));
        Check.due("after a window", 85, clock("day 60 and not day 60 or day 85", 50));
        Check.due("proofs are not submitted by the clock", EscrowDesk.NONE, clock("proof p", 0));
        Check.due("a proof and a day", EscrowDesk.NONE, clock("proof p and day 5", 0));
    }

    private static int missing(String condition, int... submitted) {
        EscrowDesk x = Desks.of("milestone z 1 1 when proof a or proof b or proof c or proof d; milestone a 1 1 when "
            + condition + ";");
        for (int proof : submitted) {
            x.submit(proof);
        }
        return x.missingProofs(1);
    }

    private static void missingProofs() {
        Check.due("none is missing", 0, missing("always"));
        Check.due("none helps", EscrowDesk.NONE, missing("approved"));
        Check.due("one", 4, missing("proof c"));
        Check.due("one is submitted", 0, missing("proof c", 2));
        Check.due("both", 5, missing("proof a and proof c"));
        Check.due("the other", 4, missing("proof a and proof c", 0));
        Check.due("one of two", 2, missing("proof d or proof b"));
        Check.due("one rather than two", 8, missing("proof a and proof b or proof d"));
        Check.due("of two pairs the smaller number", 6, missing("proof a and proof d or proof b and proof c"));
        Check.due("a submitted one makes a pair one", 8, missing("proof a and proof d or proof b and proof c", 0));
        Check.due("none can be taken back", EscrowDesk.NONE, missing("proof a and not proof b", 1));
        Check.due("not", 0, missing("not proof a"));
        Check.due("all four", 15, missing("proof a and proof b and proof c and proof d"));
        EscrowDesk x = Desks.of("milestone a 1 1 when proof a and proof b and proof c and proof d and proof e and proof f and"
            + " proof g and proof h or day 9;");
        Check.due("all eight", 255, x.missingProofs(0));
        x.pass(9);
        Check.due("the day came", 0, x.missingProofs(0));
    }

    private static void counts() {
        EscrowDesk x = Desks.of("deposit 99; milestone a 7 1 when approved; milestone b 20 1 when approved;"
            + "milestone c 3 1 when approved; milestone d 1 1 when approved;");
        Check.due("none is closed", 0, x.closedCount());
        Check.due("no progress", 0, x.progress());
        x.pay(0, 7);
        Check.due("7 of 31", 225, x.progress());
        Check.due("a paid one is closed", 1, x.closedCount());
        x.pay(1, 1);
        x.cancel(1);
        Check.due("a cancelled one is closed", 2, x.closedCount());
        Check.due("8 of 31", 258, x.progress());
        x.dispute(2);
        Check.due("a disputed one is not closed", 2, x.closedCount());
        x.resolve(2, 500);
        Check.due("a settled one is closed", 3, x.closedCount());
        Check.due("9 of 31", 290, x.progress());
        x.pay(3, 1);
        Check.due("all are closed", 4, x.closedCount());
        Check.due("without milestones", 0, new EscrowDesk().progress());
        Check.due("none without milestones", 0, new EscrowDesk().closedCount());
        EscrowDesk y = Desks.of("deposit 5; milestone a 5 1 when always;");
        y.pass(1);
        Check.due("all is paid", 1000, y.progress());
        EscrowDesk one = Desks.of("deposit 5; milestone a 1 1 when always;");
        Check.due("a payment of one", 1, one.pass(1));
        Check.due("the smallest amount", 1000, one.progress());
        StringBuilder large = new StringBuilder();
        for (char name = 'a'; name <= 'j'; name++) {
            large.append("milestone ").append(name).append(" 99999 1 when approved;");
        }
        EscrowDesk z = Desks.of(large.toString());
        for (int deposits = 0; deposits < 10; deposits++) {
            z.deposit(99999);
            z.pay(deposits, 99999);
        }
        Check.due("the largest amounts", 1000, z.progress());
    }

    private static void graceLeft() {
        EscrowDesk x = Desks.of("grace 5; milestone a 7 1 when day 2;");
        Check.due("not due", EscrowDesk.NONE, x.graceLeft(0));
        x.pass(2);
        Check.due("due today", 5, x.graceLeft(0));
        x.pass(4);
        Check.due("a day is left", 1, x.graceLeft(0));
        x.pass(1);
        Check.due("none is left", 0, x.graceLeft(0));
        x.pass(9);
        Check.due("never less", 0, x.graceLeft(0));
        x.setGrace(60);
        Check.due("more by a new grace period", 46, x.graceLeft(0));
        x.dispute(0);
        Check.due("disputed", EscrowDesk.NONE, x.graceLeft(0));
        x.withdraw(0);
        Check.due("open", EscrowDesk.NONE, x.graceLeft(0));
        x.cancel(0);
        Check.due("cancelled", EscrowDesk.NONE, x.graceLeft(0));
    }

    private static void proofs() {
        EscrowDesk x = Desks.of("milestone a 1 1 when proof plan or proof zabcdefgz; milestone b 1 1 when proof plan or proof y"
            + " and proof zabcdefgz;");
        Check.due("proofs", 3, x.proofs());
        Check.due("plan 0", 'p', x.proofCharacter(0, 0));
        Check.due("plan 3", 'n', x.proofCharacter(0, 3));
        Check.noIndex("plan 4", () -> x.proofCharacter(0, 4));
        Check.noIndex("plan -1", () -> x.proofCharacter(0, -1));
        String name = "zabcdefgz";
        for (int index = 0; index < 9; index++) {
            Check.due(name, name.charAt(index), x.proofCharacter(1, index));
        }
        Check.noIndex("9 letters", () -> x.proofCharacter(1, 9));
        Check.noIndex("no letter", () -> x.proofCharacter(1, Integer.MAX_VALUE));
        Check.noIndex("no letter below", () -> x.proofCharacter(1, Integer.MIN_VALUE));
        Check.due("y", 'y', x.proofCharacter(2, 0));
        Check.noIndex("no proof 3", () -> x.proofCharacter(3, 0));
        x.submit(1);
        Check.due("not submitted 0", false, x.isSubmitted(0));
        Check.due("submitted 1", true, x.isSubmitted(1));
        Check.due("not submitted 2", false, x.isSubmitted(2));
        Check.noIndex("no proof 3 was submitted", () -> x.isSubmitted(3) ? 1 : 0);
    }

    private static void wouldHold() {
        EscrowDesk x = Desks.of("deposit 99; milestone a 1 1 when always; milestone b 1 1 when done a;"
            + "milestone c 1 1 when done a and not done b or sum 2;");
        Check.due("b with none", false, x.wouldHold(1, 0));
        Check.due("b with a", true, x.wouldHold(1, 1));
        Check.due("b with b and c", false, x.wouldHold(1, 6));
        Check.due("c with a", true, x.wouldHold(2, 1));
        Check.due("c with a and b; the payments stay", false, x.wouldHold(2, 3));
        Check.due("c with all", false, x.wouldHold(2, 7));
        Check.noArgument("set 8", () -> x.wouldHold(2, 8) ? 1 : 0);
        Check.noArgument("set -1", () -> x.wouldHold(2, -1) ? 1 : 0);
        Check.noArgument("set min", () -> x.wouldHold(2, Integer.MIN_VALUE) ? 1 : 0);
        x.pay(0, 1);
        Check.due("what is paid is paid", true, x.wouldHold(1, 0));
        x.cancel(1);
        Check.due("a cancelled one in the set counts as paid", false, x.wouldHold(2, 2));
        Check.due("state stays", 5, x.state(1));
    }

    private static void dueRanks() {
        EscrowDesk x = Desks.of("milestone a 1 7 when day 1; milestone b 1 3 when day 1; milestone c 1 7 when day 2;"
            + "milestone d 1 3 when day 1; milestone e 1 0 when approved;");
        Check.due("none is due", EscrowDesk.NONE, x.nextDue());
        Check.noIndex("rank 0 of none", () -> x.dueAt(0));
        x.pass(1);
        Check.due("first", 1, x.dueAt(0));
        Check.due("second", 3, x.dueAt(1));
        Check.due("third", 0, x.dueAt(2));
        Check.noIndex("no fourth", () -> x.dueAt(3));
        Check.noIndex("rank -1", () -> x.dueAt(-1));
        Check.noIndex("rank min", () -> x.dueAt(Integer.MIN_VALUE));
        Check.due("next", 1, x.nextDue());
        x.pass(1);
        Check.due("fourth", 2, x.dueAt(3));
        x.dispute(1);
        Check.due("next without the disputed one", 3, x.nextDue());
        x.approve(4);
        x.pass(1);
        Check.due("the smallest priority comes first", 4, x.nextDue());
    }

    private static void tenMilestones() {
        StringBuilder text = new StringBuilder("deposit 90;");
        for (char name = 'a'; name <= 'j'; name++) {
            text.append("milestone ").append(name).append(" 10 ").append('j' - name).append(" when day 2;");
        }
        EscrowDesk x = Desks.of(text.toString());
        Check.due("shortage of ten", 10, x.shortage());
        Check.due("none is closed", 0, x.closedCount());
        Check.due("all ten done", true, x.wouldHold(9, 1023) == x.holds(9));
        Check.noArgument("an eleventh", () -> x.wouldHold(9, 1024) ? 1 : 0);
        Check.due("the last one first", 2, x.daysUntilClosed(9));
        Check.due("the first one last, without money", EscrowDesk.NONE, x.daysUntilClosed(0));
        Check.due("short by day 2", 2, x.shortDay(9));
        Check.due("nine are paid", 90, x.pass(2));
        Check.due("nine are closed", 9, x.closedCount());
        Check.due("900 of 1000", 900, x.progress());
        Check.due("the first one is due", 0, x.nextDue());
        Check.due("no money", 0, x.available());
        Check.due("nine entries and the deposit", 10, x.entries());
        Check.due("the last one was paid first", 9, x.entry(1, 3));
        Check.due("the second one was paid last", 1, x.entry(9, 3));
    }

    private static void shortage() {
        EscrowDesk x = Desks.of("deposit 50; milestone a 40 1 when approved; milestone b 30 1 when approved;");
        Check.due("shortage", 20, x.shortage());
        x.dispute(0);
        Check.due("frozen amounts do not count", 20, x.shortage());
        x.resolve(0, 0);
        Check.due("a closed one does not count", 20, x.shortage());
        x.deposit(19);
        Check.due("1 is short", 1, x.shortage());
        x.deposit(1);
        Check.due("enough", 0, x.shortage());
        x.deposit(50);
        Check.due("more than enough", 0, x.shortage());
        x.pay(1, 10);
        Check.due("paid amounts do not count", 0, x.shortage());
        Check.due("no milestones", 0, new EscrowDesk().shortage());
    }
}
