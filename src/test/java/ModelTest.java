import java.lang.reflect.InvocationTargetException;
import java.lang.reflect.Method;
import java.util.ArrayList;
import java.util.Arrays;
import java.util.Comparator;
import java.util.List;
import java.util.Map;
import java.util.Random;
import java.util.TreeMap;

/** Puts long runs of made-up calls to EscrowDesk and to ModelDesk: all promises, with wrong inputs among the right ones. */
final class ModelTest {
    private static final int RUNS = 600;
    private static final List<String> EDITS = List.of("deposit", "submit", "approve", "pay", "pay", "dispute", "withdraw",
        "resolve", "cancel", "payInterest", "close", "setRate", "setGrace", "pass", "pass", "pass", "pass", "undo");

    private final Random random;
    private final EscrowDesk desk = new EscrowDesk();
    private final ModelDesk model = new ModelDesk();
    private final List<String> calls = new ArrayList<>();
    private final String run;
    private boolean same = true;

    private static final Map<String, Method> DESK_METHODS = new TreeMap<>();
    private static final Map<String, Method> MODEL_METHODS = new TreeMap<>();
    private static final List<Method> ASKED = new ArrayList<>();
    private static final Map<String, Integer> ANSWERS = new TreeMap<>();

    private ModelTest(int seed) {
        random = new Random(seed);
        run = "run " + seed;
    }

    public static void main(String[] args) {
        for (Method method : EscrowDesk.class.getDeclaredMethods()) {
            if (java.lang.reflect.Modifier.isPublic(method.getModifiers())) {
                DESK_METHODS.put(method.getName(), method);
            }
        }
        for (Method method : ModelDesk.class.getDeclaredMethods()) {
            if (DESK_METHODS.containsKey(method.getName())) {
                MODEL_METHODS.put(method.getName(), method);
            }
        }
        for (Method method : DESK_METHODS.values()) {
            if (!EDITS.contains(method.getName()) && !List.of("feed", "load").contains(method.getName())) {
                ASKED.add(method);
            }
        }
        ASKED.sort(Comparator.comparing(Method::getName));
        int first = args.length > 0 ? Integer.parseInt(args[0]) : 0;
        int runs = args.length > 1 ? Integer.parseInt(args[1]) : RUNS;
        for (int seed = first; seed < first + runs; seed++) {
            new ModelTest(seed).go();
        }
        for (String name : DESK_METHODS.keySet()) {
            Check.due(name + " was called", true, ANSWERS.containsKey(name));
        }
        Check.end("ModelTest");
    }

    private void go() {
        loadText(random.nextInt(4) == 0 ? spoiled(text()) : text());
        toAnEdge(random.nextInt(40));
        int steps = 10 + random.nextInt(60);
        boolean quiet = random.nextInt(4) == 0;
        for (int step = 0; step < steps && same; step++) {
            if (random.nextInt(25) == 0) {
                loadText(random.nextBoolean() ? spoiled(text()) : text());
            }
            String edit = EDITS.get(random.nextInt(EDITS.size()));
            call(edit, arguments(edit));
            int questions = quiet ? 3 : 12;
            for (int question = 0; question < questions && same; question++) {
                Method asked = ASKED.get(random.nextInt(ASKED.size()));
                call(asked.getName(), arguments(asked.getName()));
            }
            if (step % 5 == 4 || step == steps - 1) {
                compareAll();
            }
        }
    }

    /** Some runs begin where made-up calls seldom get to: late, rich, or with more entries than are kept. */
    private void toAnEdge(int edge) {
        int calls = edge == 0 ? 78 + random.nextInt(6) : edge == 1 ? 97 + random.nextInt(5) : edge == 2 ? 50 + random.nextInt(20) : 0;
        for (int call = 0; call < calls && same; call++) {
            if (edge == 0) {
                call("pass", 120);
            } else {
                call("deposit", edge == 1 ? 99999 : 1 + random.nextInt(9));
            }
        }
    }

    private void loadText(String text) {
        for (int at = 0; at < text.length() && same; at += 20) {
            int[] words = new int[5];
            for (int index = 0; index < 20; index++) {
                int sign = at + index < text.length() ? text.charAt(at + index) : ' ';
                words[index / 4] = words[index / 4] << 8 | sign;
            }
            call("feed", words);
        }
        if (random.nextInt(30) == 0) {
            call("load", text.length() + 21);
        }
        calls.add("/* " + text + " */");
        call("load", Math.min(text.length(), 700));
        call("errorKind");
        call("errorPosition");
    }

    private void compareAll() {
        for (Method asked : ASKED) {
            String name = asked.getName();
            if (asked.getParameterCount() == 0) {
                call(name);
            } else if (asked.getParameterCount() == 1 && !List.of("paymentsAfter", "creditedAfter", "shortDay").contains(name)) {
                for (int value = -1; value <= 10; value++) {
                    call(name, value);
                }
            }
        }
        for (int entry = 0; entry <= model.entries(); entry++) {
            for (int what = 0; what < 4; what++) {
                call("entry", entry, what);
            }
        }
    }

    private void call(String name, int... arguments) {
        if (!same) {
            return;
        }
        Object[] boxed = Arrays.stream(arguments).boxed().toArray();
        String got = outcome(DESK_METHODS.get(name), desk, boxed);
        String want = outcome(MODEL_METHODS.get(name), model, boxed);
        String call = name + Arrays.toString(arguments).replace('[', '(').replace(']', ')');
        calls.add(call + " -> " + want);
        ANSWERS.merge(name, 1, Integer::sum);
        same = got.equals(want);
        Check.due(run + ": " + call, want, got);
        if (!same) {
            System.out.println(String.join("\n", calls));
        }
    }

    private static String outcome(Method method, Object target, Object[] arguments) {
        try {
            method.setAccessible(true);
            Object answer = method.invoke(target, arguments);
            return answer instanceof Character sign ? Integer.toString(sign) : String.valueOf(answer);
        } catch (InvocationTargetException thrown) {
            return thrown.getCause().getClass().getSimpleName();
        } catch (IllegalAccessException hidden) {
            throw new AssertionError(hidden);
        }
    }

    private int[] arguments(String name) {
        int count = DESK_METHODS.get(name).getParameterCount();
        int[] arguments = new int[count];
        for (int index = 0; index < count; index++) {
            arguments[index] = random.nextInt(40) == 0 ? odd() : usual(name, index, arguments);
        }
        return arguments;
    }

    private int odd() {
        int[] values = {Integer.MIN_VALUE, Integer.MAX_VALUE, -1, 0, 1, 1 << 30, -1000, 8, 10, 61, 121, 1001, 3001, 99999,
            100000, random.nextInt()};
        return values[random.nextInt(values.length)];
    }

    private int usual(String name, int index, int[] before) {
        switch (name) {
            case "isSubmitted", "submit":
                return random.nextInt(Math.max(1, model.proofs()));
            case "proofCharacter":
                return index == 0 ? random.nextInt(Math.max(1, model.proofs())) : random.nextInt(9);
            case "wouldHold":
                return index == 0 ? milestone() : random.nextInt(1 << Math.max(model.milestones(), 1));
            case "dueAt":
                return random.nextInt(3);
            case "paymentsAfter", "creditedAfter", "shortDay", "pass":
                return 1 + random.nextInt(random.nextInt(3) == 0 ? 121 : 12);
            case "paidAfter":
                return index == 0 ? milestone() : 1 + random.nextInt(random.nextInt(3) == 0 ? 121 : 12);
            case "splitPayment", "resolve":
                return index == 0 ? disputed() : random.nextInt(3) == 0 ? 1000 * random.nextInt(2) : random.nextInt(1001);
            case "shareFor":
                return index == 0 ? disputed() : random.nextInt(random.nextBoolean() ? 200 : 2000);
            case "withdraw":
                return disputed();
            case "deposit":
                return 1 + random.nextInt(random.nextInt(4) == 0 ? 99999 : 900);
            case "pay":
                return index == 0 ? milestone() : amountOf(before[0]);
            case "payInterest":
                return 1 + random.nextInt(Math.max(1, model.interestPot() + 1));
            case "setRate":
                return index == 0 ? random.nextInt(3001) : random.nextBoolean() ? 360 : 365;
            case "setGrace":
                return random.nextInt(random.nextBoolean() ? 5 : 61);
            case "written":
                return random.nextInt(45);
            case "entry":
                return index == 0 ? random.nextInt(61) : random.nextInt(4);
            case "totalOn":
                return index == 0 ? Math.max(0, model.day() - random.nextInt(20)) : random.nextInt(5);
            default:
                return milestone();
        }
    }

    private int milestone() {
        return random.nextInt(Math.max(1, model.milestones()));
    }

    private int disputed() {
        int start = milestone();
        for (int step = 0; step < model.milestones(); step++) {
            int milestone = (start + step) % model.milestones();
            if (model.state(milestone) == 2) {
                return milestone;
            }
        }
        return start;
    }

    private int amountOf(int milestone) {
        if (milestone < 0 || milestone >= model.milestones() || model.remaining(milestone) == 0) {
            return 1;
        }
        int remaining = model.remaining(milestone);
        return random.nextInt(3) == 0 ? remaining + random.nextInt(2) : 1 + random.nextInt(remaining);
    }

    // ---- texts

    private String text() {
        StringBuilder text = new StringBuilder();
        List<String> names = new ArrayList<>();
        int statements = random.nextInt(16);
        if (random.nextInt(3) > 0) {
            text.append("rate ").append(random.nextInt(3001)).append(random.nextBoolean() ? " 360;" : " 365;");
        }
        if (random.nextInt(3) > 0) {
            text.append("fee ").append(random.nextInt(2001)).append(";");
        }
        if (random.nextInt(2) > 0) {
            text.append(" grace ").append(random.nextInt(random.nextBoolean() ? 4 : 61)).append(";");
        }
        for (int statement = 0; statement < statements && text.length() < 640; statement++) {
            if (random.nextInt(4) == 0) {
                text.append("deposit ").append(1 + random.nextInt(random.nextInt(5) == 0 ? 99999 : 2000)).append(";\n");
            } else if (names.size() < 10 || random.nextInt(20) == 0) {
                String name = random.nextInt(30) == 0 && !names.isEmpty() ? names.get(0) : "m" + letter() + letter();
                String milestone = "milestone " + name + " " + (1 + random.nextInt(random.nextInt(5) == 0 ? 99999 : 900))
                    + " " + random.nextInt(4) + " when " + condition(names, 0) + ";";
                if (text.length() + milestone.length() <= 700) {
                    text.append(milestone);
                    names.add(name);
                }
            }
        }
        return text.length() > 700 ? text.substring(0, 700) : text.toString();
    }

    private char letter() {
        return (char) ('a' + random.nextInt(26));
    }

    private String condition(List<String> names, int depth) {
        int kind = random.nextInt(depth > 5 ? 6 : 12);
        switch (kind) {
            case 0:
                return "always";
            case 1:
                return "approved";
            case 2:
                return "day " + random.nextInt(random.nextBoolean() ? 12 : random.nextBoolean() ? 100 : 1000);
            case 3:
                return "sum " + random.nextInt(random.nextBoolean() ? 1500 : 100000);
            case 4:
                return names.isEmpty() ? "always" : "done " + names.get(random.nextInt(names.size()));
            case 5:
                return "proof p" + (char) ('a' + random.nextInt(random.nextInt(20) == 0 ? 9 : 8));
            case 6:
                return "not " + condition(names, depth + 6);
            case 7:
                return "(" + condition(names, depth + 1) + ")";
            case 8:
                return "not(" + condition(names, depth + 1) + ")";
            case 9:
                return condition(names, depth + 2) + " or " + condition(names, depth + 2);
            default:
                return condition(names, depth + 2) + " and " + condition(names, depth + 2);
        }
    }

    /** A text with one or two places changed, so that most kinds of errors come up. */
    private String spoiled(String text) {
        StringBuilder spoiled = new StringBuilder(text);
        String[] pieces = {" ", "", ";", "(", ")", "not ", "((((", "5", " 99999 ", " 1000 ", "0", "?", "A", "\u00e9", "x", " and ",
            " or ", " when ", " proof z ", " done zz ", "deposit 5;", "fee 3;", "milestone ", "always", "abcdefghij", "\n", "\t"};
        int changes = 1 + random.nextInt(2);
        for (int change = 0; change < changes; change++) {
            int from = random.nextInt(spoiled.length() + 1);
            int to = Math.min(spoiled.length(), from + random.nextInt(6));
            spoiled.replace(from, to, pieces[random.nextInt(pieces.length)]);
        }
        if (random.nextInt(4) == 0) {
            spoiled.setLength(random.nextInt(spoiled.length() + 1));
        }
        return spoiled.length() > 700 ? spoiled.substring(0, 700) : spoiled.toString();
    }
}
