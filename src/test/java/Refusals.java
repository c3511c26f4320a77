import java.lang.reflect.InvocationTargetException;
import java.lang.reflect.Method;
import java.lang.reflect.Modifier;
import java.util.ArrayList;
import java.util.Arrays;
import java.util.Comparator;
import java.util.LinkedHashMap;
import java.util.List;
import java.util.Map;
import java.util.function.Supplier;

/**
 * Puts every method with values at and behind the edges to desks in many states. A call that throws, and one that only tells,
 * must leave no trace: the desk goes on as its twin that was never asked. An edit that is undone must leave none either.
 */
final class Refusals {
    private static final List<String> EDITS = List.of("deposit", "submit", "approve", "pay", "dispute", "withdraw", "resolve",
        "cancel", "payInterest", "close", "setRate", "setGrace", "pass");
    private static final List<String> APART = List.of("feed", "load", "undo", "write");
    private static final int[] PLACES = {-1, 0, 1, 2, 3, 4, 5, 6, 7, 8, 9, 10, 59, 60, Integer.MIN_VALUE, Integer.MAX_VALUE};
    private static final int[] VALUES = {Integer.MIN_VALUE, -1, 0, 1, 2, 3, 4, 5, 40, 59, 60, 61, 120, 121, 359, 360, 361, 365,
        366, 1000, 1001, 1023, 1024, 3000, 3001, 99999, 100000, Integer.MAX_VALUE};
    private static final String RICH = "rate 3000 360;fee 500;grace 3;deposit 900;deposit 90;"
        + "milestone open 40 1 when proof pa and approved;milestone due 300 2 when proof pb or day 2;"
        + "milestone disputed 50 1 when always;milestone paid 60 3 when sum 20;milestone settled 70 1 when day 900;"
        + "milestone cancelled 80 9 when always;milestone poor 99999 9 when done settled and not done paid;"
        + "milestone last 5 0 when proof pc or proof pd or proof pe or proof pf or proof pg or proof ph;";

    private Refusals() {
    }

    static void run() {
        for (Map.Entry<String, Supplier<EscrowDesk>> state : states().entrySet()) {
            leavesNoTrace(state.getKey(), state.getValue());
            loadOutOfRange(state.getKey(), state.getValue());
            badTextKeepsAllButTheBuffer(state.getKey(), state.getValue());
        }
    }

    private static Map<String, Supplier<EscrowDesk>> states() {
        Map<String, Supplier<EscrowDesk>> states = new LinkedHashMap<>();
        states.put("a new desk", EscrowDesk::new);
        states.put("a text half fed", Refusals::halfFed);
        states.put("a full buffer", Refusals::fullBuffer);
        states.put("a text just loaded", () -> Desks.of(RICH));
        states.put("after a bad text", Refusals::afterABadText);
        states.put("milestones in all states", () -> rich(false));
        states.put("all states, ten edits", () -> rich(true));
        states.put("some edits undone", Refusals::someUndone);
        states.put("the last day", ErrorBoundaries::onTheLastDay);
        states.put("the greatest deposits", ErrorBoundaries::fullOfDeposits);
        states.put("more entries than are kept", Refusals::manyEntries);
        states.put("all closed", Refusals::allClosed);
        return states;
    }

    private static EscrowDesk halfFed() {
        EscrowDesk x = new EscrowDesk();
        x.deposit(8);
        Desks.feed(x, "deposit 7; milestone a 5 1 when proof q; fee");
        return x;
    }

    private static EscrowDesk fullBuffer() {
        EscrowDesk x = Desks.of("deposit 30;");
        Desks.feed(x, RICH + " ".repeat(700 - RICH.length()));
        return x;
    }

    private static EscrowDesk afterABadText() {
        EscrowDesk x = Desks.of(RICH);
        x.pass(4);
        x.write(1);
        Desks.load(x, "deposit 5; milestone milestone");
        Desks.feed(x, "deposit 5;          ");
        return x;
    }

    /** Milestones in every state, and a buffer, an output and edits that could be spoiled. */
    private static EscrowDesk rich(boolean many) {
        EscrowDesk x = Desks.of(RICH);
        x.setGrace(60);
        x.cancel(5);
        x.pay(3, 60);
        x.dispute(4);
        x.resolve(4, 400);
        x.pass(30);
        x.dispute(2);
        x.dispute(6);
        if (many) {
            x.submit(1);
            x.payInterest(3);
            x.deposit(11);
            x.pay(1, 2);
        }
        for (int milestone = 0; milestone < 7; milestone++) {
            Check.due("state of milestone " + milestone, new int[] {0, 1, 2, 3, 4, 5, 2}[milestone], x.state(milestone));
        }
        x.write(2);
        Desks.feed(x, "deposit 5; milestone a 5 1 when always; ");
        return x;
    }

    private static EscrowDesk someUndone() {
        EscrowDesk x = rich(true);
        for (int undone = 0; undone < 6; undone++) {
            x.undo();
        }
        return x;
    }

    private static EscrowDesk manyEntries() {
        EscrowDesk x = Desks.of("deposit 900; milestone a 70 1 when approved; milestone b 50 1 when day 3; fee 2000;");
        for (int amount = 1; amount <= 62; amount++) {
            x.pay(0, 1);
            if (amount % 9 == 0) {
                x.pass(1);
            }
        }
        x.undo();
        x.undo();
        return x;
    }

    private static EscrowDesk allClosed() {
        EscrowDesk x = Desks.of("rate 3000 360; deposit 900; milestone a 70 1 when always; milestone b 50 1 when approved;");
        x.pass(30);
        x.cancel(1);
        return x;
    }

    private static void leavesNoTrace(String state, Supplier<EscrowDesk> made) {
        String twin = Story.whole(made.get());
        boolean hasRoom = rememberedEdits(made.get()) < 10;
        EscrowDesk asked = made.get();
        int calls = 0;
        List<String> since = new ArrayList<>();
        for (Method method : methods()) {
            for (Object[] arguments : arguments(method)) {
                String fresh = outcome(method, made.get(), arguments);
                boolean thrown = fresh.endsWith("Exception");
                boolean edit = EDITS.contains(method.getName());
                if (thrown || !edit || hasRoom) {
                    String call = method.getName() + Arrays.toString(arguments);
                    Check.due(state + ": " + call, fresh, outcome(method, asked, arguments));
                    if (edit && !thrown) {
                        asked.undo();
                    }
                    since.add(call);
                    calls++;
                }
                if (calls == 250) {
                    Check.due(state + " goes on as its twin behind " + since, twin, Story.whole(asked));
                    asked = made.get();
                    calls = 0;
                    since.clear();
                }
            }
        }
        Check.due(state + " goes on as its twin behind " + since, twin, Story.whole(asked));
    }

    private static int rememberedEdits(EscrowDesk x) {
        return Math.max(0, x.undo() + 1);
    }

    private static List<Method> methods() {
        List<Method> methods = new ArrayList<>();
        for (Method method : EscrowDesk.class.getDeclaredMethods()) {
            if (Modifier.isPublic(method.getModifiers()) && !APART.contains(method.getName())) {
                methods.add(method);
            }
        }
        methods.sort(Comparator.comparing(Method::getName));
        return methods;
    }

    private static List<Object[]> arguments(Method method) {
        List<Object[]> all = new ArrayList<>();
        int count = method.getParameterCount();
        if (count == 0) {
            all.add(new Object[0]);
        }
        if (count == 1) {
            for (int value : VALUES) {
                all.add(new Object[] {value});
            }
        }
        if (count == 2) {
            for (int place : method.getName().equals("setRate") ? VALUES : PLACES) {
                for (int value : VALUES) {
                    all.add(new Object[] {place, value});
                }
            }
        }
        return all;
    }

    private static String outcome(Method method, EscrowDesk x, Object[] arguments) {
        try {
            return String.valueOf(method.invoke(x, arguments));
        } catch (InvocationTargetException thrown) {
            return thrown.getCause().getClass().getSimpleName();
        } catch (IllegalAccessException hidden) {
            throw new AssertionError(hidden);
        }
    }

    private static void loadOutOfRange(String state, Supplier<EscrowDesk> made) {
        String twin = Story.whole(made.get());
        EscrowDesk scratch = made.get();
        int fed = scratch.feed(0, 0, 0, 0, 0);
        int bytes = fed < 0 ? 700 : fed - 20;
        EscrowDesk asked = made.get();
        for (int length : new int[] {-1, bytes + 1, 701, Integer.MIN_VALUE, Integer.MAX_VALUE}) {
            Check.noArgument(state + ": load(" + length + ")", () -> asked.load(length));
        }
        if (bytes == 700) {
            Check.due(state + ": feed", EscrowDesk.FULL, asked.feed(-1, -1, -1, -1, -1));
        }
        Check.noIndex(state + ": write(-1)", () -> asked.write(-1));
        Check.noIndex(state + ": write(milestones)", () -> asked.write(asked.milestones()));
        Check.due(state + " goes on as its twin behind load()", twin, Story.whole(asked));
        if (rememberedEdits(made.get()) == 0) {
            EscrowDesk idle = made.get();
            Check.due(state + ": undo", EscrowDesk.NONE, idle.undo());
            Check.due(state + " goes on as its twin behind undo()", twin, Story.whole(idle));
        }
    }

    private static void badTextKeepsAllButTheBuffer(String state, Supplier<EscrowDesk> made) {
        String before = Story.now(made.get());
        String twin = Story.whole(withBadText(made.get(), "day"));
        String[] texts = {"?", "deposit 1;".repeat(7), "rate 1 361;", RICH + "?",
            "fee 3; deposit 5; milestone q 1 1 when proof z and done q;"};
        for (String bad : texts) {
            EscrowDesk asked = withBadText(made.get(), bad);
            Check.due(state + " as before behind " + bad, before, Story.now(asked));
            Check.due(state + " goes on as its twin behind " + bad, twin, Story.whole(withBadText(asked, "day")));
        }
    }

    /** Every buffer of the states begins with a word that is no text; an empty one is fed with what is none. */
    private static EscrowDesk withBadText(EscrowDesk x, String bad) {
        x.feed(0x3f3f3f3f, 0x3f3f3f3f, 0x3f3f3f3f, 0x3f3f3f3f, 0x3f3f3f3f);
        Check.due("what the buffer holds", EscrowDesk.BAD_TEXT, x.load(7));
        Check.due(bad, EscrowDesk.BAD_TEXT, Desks.load(x, bad));
        return x;
    }
}
