/** What a desk tells, as texts that can be compared. */
final class Story {
    /** More than any output, name or history has, so that a desk that never ends does not hold up the tests. */
    private static final int MOST = 100;

    private Story() {
    }

    /** All answers of the methods that change nothing. */
    static String now(EscrowDesk x) {
        StringBuilder told = new StringBuilder(account(x));
        for (int milestone = 0; milestone < x.milestones(); milestone++) {
            told.append('\n').append(milestone(x, milestone)).append(trials(x, milestone));
        }
        for (int proof = 0; proof < x.proofs(); proof++) {
            told.append('\n').append(x.isSubmitted(proof)).append(' ');
            for (int index = 0; index < MOST && !outcome(x, proof, index).startsWith("Index"); index++) {
                told.append(x.proofCharacter(proof, index));
            }
        }
        told.append('\n').append(output(x));
        for (int days : new int[] {1, 30, 120}) {
            told.append('\n').append(x.paymentsAfter(days)).append(' ').append(x.creditedAfter(days)).append(' ');
            told.append(x.shortDay(days));
        }
        return told.toString();
    }

    private static String outcome(EscrowDesk x, int proof, int index) {
        return Check.outcome(() -> x.proofCharacter(proof, index));
    }

    /** The account and the ledger alone. */
    static String account(EscrowDesk x) {
        StringBuilder told = new StringBuilder();
        long[] answers = {x.day(), x.deposited(), x.principal(), x.available(), x.interestPot(),
            x.credited(), x.accruedParts(), x.received(), x.fees(), x.refunded(), x.milestones(), x.closedCount(), x.progress(),
            x.proofs(), x.nextDue(), x.shortage(), x.entries(), x.busiestDay()};
        for (long answer : answers) {
            told.append(answer).append(' ');
        }
        for (int entry = 0; entry < x.entries(); entry++) {
            told.append('\n').append(Desks.entry(x, entry));
        }
        for (int kind = 0; kind < 5; kind++) {
            told.append('\n').append(x.totalOn(0, kind)).append(' ').append(x.totalOn(x.day(), kind));
        }
        for (int rank = 0; rank < x.milestones(); rank++) {
            int asked = rank;
            told.append(' ').append(Check.outcome(() -> x.dueAt(asked)));
        }
        return told.toString();
    }

    private static String milestone(EscrowDesk x, int milestone) {
        return x.state(milestone) + " " + x.paid(milestone) + " " + x.remaining(milestone) + " " + x.frozen(milestone) + " "
            + x.dueDay(milestone) + " " + x.holds(milestone) + " " + x.dayByClock(milestone) + " " + x.missingProofs(milestone) + " "
            + x.graceLeft(milestone) + " " + x.wouldHold(milestone, (1 << x.milestones()) - 1) + " ";
    }

    private static String trials(EscrowDesk x, int milestone) {
        return x.paidAfter(milestone, 1) + " " + x.paidAfter(milestone, 120) + " " + x.daysUntilClosed(milestone) + " "
            + Check.outcome(() -> x.splitPayment(milestone, 500)) + " " + Check.outcome(() -> x.splitPayment(milestone,
                1000)) + " "
            + Check.outcome(() -> x.shareFor(milestone, 1)) + " " + Check.outcome(() -> x.shareFor(milestone, 40));
    }

    private static String output(EscrowDesk x) {
        StringBuilder output = new StringBuilder("<");
        int length = 0;
        while (length < MOST && !isEnd(x, length)) {
            output.append(x.written(length));
            length++;
        }
        return output.append('>').toString();
    }

    private static boolean isEnd(EscrowDesk x, int k) {
        return Check.outcome(() -> x.written(k)).startsWith("Index");
    }

    /**
     * All that the desk tells now, what it tells as edit by edit is undone, and what its buffer holds; the desk is used up by it.
     * The grace period, the rate and the names are told only by methods that change something, so they come behind the rest.
     */
    static String whole(EscrowDesk x) {
        StringBuilder told = new StringBuilder(now(x));
        told.append("\nerror ").append(x.errorKind()).append(' ').append(x.errorPosition()).append("\nundo");
        int left = x.undo();
        for (int undone = 0; left >= 0 && undone < MOST; undone++) {
            told.append('\n').append(left).append('\n').append(account(x));
            for (int milestone = 0; milestone < x.milestones(); milestone++) {
                told.append('\n').append(milestone(x, milestone)).append(Desks.line(x, milestone));
            }
            for (int proof = 0; proof < x.proofs(); proof++) {
                told.append(' ').append(x.isSubmitted(proof));
            }
            // One at a time: a second one could push the oldest edit out.
            told.append('\n').append(x.setRate(1, 360)).append(' ').append(x.undo());
            told.append(' ').append(x.setGrace(1)).append(' ').append(x.undo());
            left = x.undo();
        }
        for (int milestone = 0; milestone < x.milestones(); milestone++) {
            told.append('\n').append(Desks.line(x, milestone));
        }
        told.append("\nrate and grace ").append(x.setRate(0, 360)).append(' ').append(x.setGrace(0));
        int bytes = x.feed(0x20202020, 0x20202020, 0x20202020, 0x20202020, 0x20202020);
        told.append("\nbuffer ").append(bytes).append(' ').append(x.load(bytes < 0 ? 700 : bytes)).append('\n').append(now(x));
        for (int milestone = 0; milestone < x.milestones(); milestone++) {
            told.append('\n').append(Desks.line(x, milestone));
        }
        return told.toString();
    }
}
