import java.lang.management.ManagementFactory;

/** All calls of a run share one room, which nothing leaves: what a desk needs is made with it, and calls make next to nothing. */
final class RoomTest {
    private static final com.sun.management.ThreadMXBean THREADS =
        (com.sun.management.ThreadMXBean) ManagementFactory.getThreadMXBean();
    private static final int CALLS = 512;
    private static long sink = 0;

    public static void main(String[] args) {
        StringBuilder text = new StringBuilder("rate 3000 360;fee 100;deposit 500;");
        for (char name = 'a'; name <= 'j'; name++) {
            text.append("milestone ").append(name).append(" 70 3 when proof ").append((char) ('a' + (name - 'a') % 8)).append(" or day 9;");
        }
        String full = text.toString();
        for (int warm = 0; warm < 3; warm++) {
            calls(Desks.of(full), full, false);
        }
        long before = THREADS.getCurrentThreadAllocatedBytes();
        EscrowDesk desk = new EscrowDesk();
        long made = THREADS.getCurrentThreadAllocatedBytes() - before;
        Check.due("a desk takes at most 64 KiB: " + made, true, made <= 65536);
        calls(desk, full, true);
        Check.due("answers were used", true, sink != 0);
        Check.end("RoomTest");
    }

    private static void calls(EscrowDesk x, String full, boolean judged) {
        quiet("load", judged, () -> Desks.load(x, full));
        x.dispute(9);
        String bad = full.substring(0, 400);
        quiet("load of a bad text", judged, () -> Desks.load(x, bad));
        quiet("write", judged, () -> x.write(0) + x.written(3));
        quiet("deposit and undo", judged, () -> x.deposit(1) + x.undo());
        quiet("submit", judged, () -> x.submit(0) ? 1 : 0);
        quiet("pass and undo", judged, () -> x.pass(120) + x.undo());
        quiet("daysUntilClosed", judged, () -> x.daysUntilClosed(9));
        quiet("paymentsAfter", judged, () -> x.paymentsAfter(120));
        quiet("shortDay", judged, () -> x.shortDay(120));
        quiet("missingProofs", judged, () -> x.missingProofs(8));
        quiet("dayByClock", judged, () -> x.dayByClock(8));
        quiet("shareFor", judged, () -> x.shareFor(9, 70));
        quiet("totalOn", judged, () -> x.totalOn(0, 0) + x.busiestDay());
    }

    private static void quiet(String what, boolean judged, Check.Call call) {
        sink += call.answer();
        long before = THREADS.getCurrentThreadAllocatedBytes();
        for (int calls = 0; calls < CALLS; calls++) {
            sink += call.answer();
        }
        long made = THREADS.getCurrentThreadAllocatedBytes() - before;
        if (judged) {
            Check.due(CALLS + " times " + what + " made " + made + " bytes, little", true, made <= 131072);
        }
    }
}
