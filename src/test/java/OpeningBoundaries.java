import java.io.IOException;
import java.lang.reflect.InvocationTargetException;
import java.lang.reflect.Method;
import java.lang.reflect.Modifier;
import java.nio.file.Files;
import java.nio.file.Path;
import java.util.Arrays;
import java.util.Comparator;
import java.util.List;
import java.util.Random;
import java.util.Set;
import java.util.TreeSet;
import java.util.regex.Matcher;
import java.util.regex.Pattern;
import java.util.stream.Collectors;

/** The first sentences of the document, before its description, and the signatures of its promises. */
final class OpeningBoundaries {
    private static final String SECTION = "WHAT IT IS";
    private static final int CALLS = 512;

    private OpeningBoundaries() {
    }

    static void run() {
        Check.parts(OpeningBoundaries::buyerAndSeller, OpeningBoundaries::deposits, OpeningBoundaries::milestonesReached,
            OpeningBoundaries::graceAndParts, OpeningBoundaries::disputes, OpeningBoundaries::interestByDays,
            OpeningBoundaries::textLedgerUndoTrial, OpeningBoundaries::lastPromisedCall,
            OpeningBoundaries::laterCalls, OpeningBoundaries::signatures);
    }

    private static void buyerAndSeller() {
        Document.says(SECTION, "An escrow account of a buyer and a seller.");
        EscrowDesk x = Desks.of("fee 1000; deposit 500; milestone a 300 1 when always;");
        x.pass(1);
        Check.due("the seller's", 270, x.received());
        Check.due("the platform's", 30, x.fees());
        Check.due("the rest", 200, x.close());
        Check.due("is the buyer's", 200, x.refunded());
        Check.due("nobody else has a part", x.deposited(), x.received() + x.fees() + x.refunded() + x.principal());
    }

    private static void deposits() {
        Document.says(SECTION, "The buyer deposits money;");
        EscrowDesk y = Desks.of("deposit 70;");
        Check.due("by the text", 70, y.deposited());
        Check.due("by a call", 75, y.deposit(5));
        Check.due("both", 75, y.deposited());
    }

    private static void milestonesReached() {
        Document.says(SECTION, "the seller is paid when milestones are reached, whose conditions are told in a small language;");
        EscrowDesk x = Desks.of("deposit 100; milestone a 60 1 when proof p and not (day 9 or approved);");
        x.pass(3);
        Check.due("not reached", 0, x.received());
        x.submit(0);
        x.pass(1);
        Check.due("reached", 60, x.received());
        EscrowDesk y = Desks.of("deposit 100; milestone a 60 1 when proof p and not (day 9 or approved);");
        y.approve(0);
        y.submit(0);
        y.pass(5);
        Check.due("kept off by its condition", 0, y.received());
    }

    private static void graceAndParts() {
        Document.says(SECTION, "payments wait for a grace period, can be made in parts, and are frozen by disputes");
        EscrowDesk x = Desks.of("grace 4; deposit 50; milestone a 80 1 when always;");
        x.pass(4);
        Check.due("day 4 of the grace period", 0, x.paid(0));
        x.pass(1);
        Check.due("a part, as there is not more", 50, x.paid(0));
        x.deposit(40);
        Check.due("a part by a call", 0, x.pay(0, 10));
        Check.due("two parts", 60, x.paid(0));
        x.pass(1);
        Check.due("the last part", 80, x.paid(0));
        Check.due("paid", 3, x.state(0));
    }

    private static void disputes() {
        Document.says(SECTION, "payments wait for a grace period, can be made in parts, and are frozen by disputes");
        EscrowDesk x = Desks.of("deposit 90; milestone a 80 1 when always; milestone b 80 1 when always;");
        Check.due("frozen", 80, x.dispute(0));
        Check.due("ten are left for the other one", 10, x.pass(1));
        Check.due("nothing for the disputed one", 0, x.paid(0));
        Check.due("the arbiter's split", 20, x.resolve(0, 250));
        Check.due("the seller's part", 30, x.received());
        Check.due("the buyer's part", 60, x.refunded());
        Check.due("settled", 4, x.state(0));
    }

    private static void interestByDays() {
        Document.says(SECTION, "Held money earns interest by days.");
        EscrowDesk x = Desks.of("rate 3000 360; deposit 10000;");
        for (int day = 1; day < 30; day++) {
            x.pass(1);
            Check.due("after " + day + " days", 30000000L * day, x.accruedParts());
        }
        x.pass(1);
        Check.due("30 days of 360 of 30 percent", 250, x.interestPot());
        x.pass(1);
        Check.due("the interest is held, too", 30750000, x.accruedParts());
        EscrowDesk y = Desks.of("rate 3000 360; deposit 10000; milestone a 10000 1 when always;");
        y.pass(3);
        Check.due("only what is held", 30000000, y.accruedParts());
    }

    private static void textLedgerUndoTrial() {
        Document.says(SECTION, "Everything is read from a text, is written to a ledger, can be undone, and can be tried ahead.");
        EscrowDesk x = Desks.of("rate 3000 360; fee 100; grace 1; deposit 9000; milestone a 500 1 when day 2;");
        Check.due("tried: payments", 500, x.paymentsAfter(30));
        Check.due("tried: credits", 213, x.creditedAfter(30));
        Check.due("the trial is not the account", 0, x.day());
        Check.due("passed", 500, x.pass(30));
        Check.due("as it was tried", 213, x.credited());
        Check.due("entries", 3, x.entries());
        Check.due("the deposit", "0 0 9000 -1", Desks.entry(x, 0));
        Check.due("the payment", "1 3 500 0", Desks.entry(x, 1));
        Check.due("the credit", "3 30 213 -1", Desks.entry(x, 2));
        Check.due("undone", 0, x.undo());
        Check.due("day 0 again", 0, x.day());
        Check.due("nothing paid", 0, x.paid(0));
        Check.due("nothing credited", 0, x.interestPot());
        Check.due("one entry", 1, x.entries());
    }

    /** A desk that has been asked 511 times answers as one that has done the same in fewer calls. */
    private static void lastPromisedCall() {
        Document.says(SECTION, "An object is used for at most 512 calls after it has been made;");
        String text = "rate 777 365; fee 100; deposit 99999; milestone a 99999 1 when approved; milestone b 5 0 when day 400;";
        EscrowDesk used = Desks.of(text);
        int calls = (text.length() + 19) / 20 + 1;
        while (calls < CALLS - 1) {
            Check.due("call " + calls, 100000, used.deposit(1));
            Check.due("call " + (calls + 1), 0, used.undo());
            calls += 2;
            if (calls == CALLS - 2) {
                Check.due("call 511", 99999, used.principal());
                calls++;
            }
        }
        Check.due("the 512th call", 0, used.pass(30));
        EscrowDesk fresh = Desks.of(text);
        fresh.pass(30);
        Check.due("it is as good as the first", Story.whole(fresh), Story.whole(used));
    }

    /** Free answers, but no exception that the document does not name: the class itself must never fail. */
    private static void laterCalls() {
        Document.says(SECTION, "what later calls answer is free.");
        List<Method> face = Arrays.stream(EscrowDesk.class.getDeclaredMethods())
            .filter(method -> Modifier.isPublic(method.getModifiers()))
            .sorted(Comparator.comparing(Method::getName)).collect(Collectors.toList());
        Random random = new Random(512);
        EscrowDesk x = Desks.of("rate 3000 360; fee 100; deposit 99999; milestone a 999 1 when day 9; milestone b 5 0 when proof p;");
        for (int call = 0; call < 100000; call++) {
            Method method = face.get(random.nextInt(face.size()));
            Object[] values = new Object[method.getParameterCount()];
            Arrays.setAll(values, value -> random.nextInt(3) == 0 ? random.nextInt() : random.nextInt(5) - 1);
            Check.due("call " + call + ", " + method.getName() + Arrays.toString(values), "", unnamed(x, method, values));
        }
    }

    /** The name of an exception that the method does not name; nothing if there is none. */
    private static String unnamed(EscrowDesk x, Method method, Object[] values) {
        try {
            method.invoke(x, values);
            return "";
        } catch (InvocationTargetException thrown) {
            Class<?> kind = thrown.getCause().getClass();
            return Arrays.asList(method.getExceptionTypes()).contains(kind) ? "" : kind.getSimpleName();
        } catch (IllegalAccessException hidden) {
            throw new AssertionError(hidden);
        }
    }

    private static void signatures() {
        Document.says("SIGNATURES", "a promise each: the signature, then what it does.");
        Set<String> told = new TreeSet<>();
        Matcher promise = Pattern.compile("## Promise (\\d+): (.*)\\n\\n`(.*)`\\n").matcher(read());
        int number = 0;
        while (promise.find()) {
            number++;
            Check.due("promise", number, Integer.parseInt(promise.group(1)));
            told.add(promise.group(3).replaceAll(" (a|b|c|d|e|[a-z]{2,}|k)(?=[,)])", ""));
        }
        Set<String> built = new TreeSet<>(Set.of("EscrowDesk()"));
        for (Method method : EscrowDesk.class.getDeclaredMethods()) {
            if (Modifier.isPublic(method.getModifiers())) {
                built.add(signature(method));
            }
        }
        Check.due("promises", 61, number);
        Check.due("signatures", String.join("\n", told), String.join("\n", built));
    }

    private static String signature(Method method) {
        String types = Arrays.stream(method.getParameterTypes()).map(Class::getName).collect(Collectors.joining(", "));
        String exceptions = Arrays.stream(method.getExceptionTypes()).map(Class::getSimpleName).collect(Collectors.joining(", "));
        return method.getReturnType() + " " + method.getName() + "(" + types + ")"
            + (exceptions.isEmpty() ? "" : " throws " + exceptions);
    }

    private static String read() {
        try {
            return Files.readString(Path.of("../shared/DOC.md"));
        } catch (IOException unread) {
            throw new AssertionError(unread);
        }
    }
}
