/** Loads a text into a new desk and looks at what it is told of it. */
final class Texts {
    private Texts() {
    }

    static void legal(String text, int milestones) {
        EscrowDesk x = new EscrowDesk();
        Check.due(text, milestones, Desks.load(x, text));
        Check.due(text + ": errorKind", 0, x.errorKind());
        Check.due(text + ": errorPosition", EscrowDesk.NONE, x.errorPosition());
    }

    static void error(String text, int kind, int position) {
        EscrowDesk x = new EscrowDesk();
        Check.due(text, EscrowDesk.BAD_TEXT, Desks.load(x, text));
        Check.due(text + ": errorKind", kind, x.errorKind());
        Check.due(text + ": errorPosition", position, x.errorPosition());
    }
}
