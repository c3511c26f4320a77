/** A house is built: the example of README.md. */
public final class Example {
    private static final String TEXT = """
        rate 1000 360; fee 200; grace 2; deposit 90000;
        milestone plan 20000 1 when proof sketch;
        milestone house 60000 2 when done plan and (proof roof or day 90);
        milestone garden 5000 3 when approved;
        """;

    public static void main(String[] args) {
        EscrowDesk desk = new EscrowDesk();
        tell("milestones", load(desk, TEXT));
        tell("principal", desk.principal());

        // The plan waits for its proof, number 0; nothing would be paid without it.
        tell("missing proofs of plan", desk.missingProofs(0));
        tell("payments after 30 days", desk.paymentsAfter(30));
        desk.submit(0);
        tell("days until plan is closed", desk.daysUntilClosed(0));

        // Day 1: the plan is due. Day 3: the grace period is over and it is paid.
        desk.pass(1);
        System.out.println(line(desk, 0));
        tell("paid on days 2 and 3", desk.pass(2));
        System.out.println(line(desk, 0));
        tell("the seller has received", desk.received());
        tell("fees", desk.fees());

        // Day 30: interest is credited.
        desk.pass(27);
        tell("interest pot", desk.interestPot());

        // The buyer disputes the house; the arbiter wants the seller to get 45000 without the fee.
        desk.dispute(1);
        System.out.println(line(desk, 1));
        tell("available", desk.available());
        int share = desk.shareFor(1, 45000);
        tell("share", share);
        tell("payment", desk.resolve(1, share));
        tell("refunded", desk.refunded());

        // A part of the garden is paid at once, by mistake: that is undone, and the garden is cancelled.
        desk.pay(2, 1000);
        System.out.println(line(desk, 2));
        tell("edits that can still be undone", desk.undo());
        desk.cancel(2);
        System.out.println(line(desk, 2));

        // All milestones are closed, so the rest goes back to the buyer.
        desk.payInterest(desk.interestPot());
        tell("refund of close", desk.close());
        System.out.println("ledger (kind, day, amount, milestone):");
        for (int entry = 0; entry < desk.entries(); entry++) {
            System.out.println("  " + desk.entry(entry, 0) + " " + desk.entry(entry, 1) + " " + desk.entry(entry, 2)
                + " " + desk.entry(entry, 3));
        }

        // What cannot be: a call with an exception and a text that is not legal change nothing.
        try {
            desk.dispute(2);
        } catch (IllegalStateException closed) {
            System.out.println("a closed milestone cannot be disputed");
        }
        if (load(desk, "deposit 100; deposit 0;") == EscrowDesk.BAD_TEXT) {
            System.out.println("error of kind " + desk.errorKind() + " at position " + desk.errorPosition());
        }
        tell("milestones", desk.milestones());
    }

    private static void tell(String what, int answer) {
        System.out.println(what + ": " + answer);
    }

    /** Feeds a text, 20 bytes a call and with spaces behind its end, and loads it. */
    private static int load(EscrowDesk desk, String text) {
        for (int at = 0; at < text.length(); at += 20) {
            desk.feed(four(text, at), four(text, at + 4), four(text, at + 8), four(text, at + 12), four(text, at + 16));
        }
        return desk.load(text.length());
    }

    /** Four bytes of a text as an int, the most significant byte first. */
    private static int four(String text, int at) {
        int bytes = 0;
        for (int index = at; index < at + 4; index++) {
            bytes = bytes << 8 | (index < text.length() ? text.charAt(index) : ' ');
        }
        return bytes;
    }

    /** Writes a milestone to the output and reads it from there. */
    private static String line(EscrowDesk desk, int milestone) {
        StringBuilder line = new StringBuilder();
        int length = desk.write(milestone);
        for (int k = 0; k < length; k++) {
            line.append(desk.written(k));
        }
        return line.toString();
    }
}
