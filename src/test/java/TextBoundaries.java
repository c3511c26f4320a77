/** The clauses of TEXT, each on both sides of what it allows. */
final class TextBoundaries {
    private static final String M = "milestone a 10 1 when ";
    private static final int AT = M.length();
    private static final String[] QUOTED = {"rate", "fee", "grace", "deposit", "milestone", "when", "or", "and", "not", "day",
        "proof", "done", "sum", "approved", "always"};

    private TextBoundaries() {
    }

    static void run() {
        Check.parts(TextBoundaries::length, TextBoundaries::tokenSizes, TextBoundaries::tokensExtend,
            TextBoundaries::blanks, TextBoundaries::otherBytes, TextBoundaries::statements,
            TextBoundaries::conditions, TextBoundaries::numbers, TextBoundaries::quotedWords, TextBoundaries::names,
            TextBoundaries::defaults, TextBoundaries::repeatedStatements, TextBoundaries::counts,
            TextBoundaries::proofCounts, TextBoundaries::openWithinEachOther, TextBoundaries::firstError,
            TextBoundaries::endOfText, TextBoundaries::kinds, TextBoundaries::smallerKind);
    }

    private static void length() {
        Document.says("TEXT", "The text has at most 700 bytes.");
        String text = M + "always;";
        Texts.legal(" ".repeat(700 - text.length()) + text, 1);
        Texts.legal(text + "\n".repeat(700 - text.length()), 1);
        Texts.error(" ".repeat(701 - text.length()) + text.substring(0, text.length() - 1), 2, 700);
        Texts.error(" ".repeat(699) + "?", 1, 699);
        EscrowDesk x = new EscrowDesk();
        Desks.feed(x, " ".repeat(700));
        Check.due("byte 701", EscrowDesk.FULL, x.feed(0, 0, 0, 0, 0));
        Check.noArgument("a text of 701 bytes", () -> x.load(701));
        Check.due("a text of 700 bytes", 0, x.load(700));
    }

    private static void tokenSizes() {
        Document.says("TEXT", "Tokens are words (1 to 9 lower-case letters), numbers (1 to 5 digits) and the characters ( )"
            + " and ;.");
        for (String name : new String[] {"a", "z", "abcdefghi", "zzzzzzzzz"}) {
            Texts.legal("milestone " + name + " 10 1 when proof " + name + "; milestone m 10 1 when done " + name + ";", 2);
            EscrowDesk x = Desks.of("milestone " + name + " 10 1 when proof " + name + ";");
            Check.due(name + " as a NAME", name + " open 0/10", Desks.line(x, 0));
            Check.due(name + " as a PROOF", name.charAt(0), x.proofCharacter(0, 0));
            Check.due(name + " to its end", name.charAt(name.length() - 1), x.proofCharacter(0, name.length() - 1));
            Check.noIndex(name + " behind its end", () -> x.proofCharacter(0, name.length()));
        }
        for (String number : new String[] {"7", "00007", "99999"}) {
            Texts.legal("deposit " + number + ";", 0);
        }
        Texts.legal(M + "((always));", 1);
        Document.says("TEXT", "A longer run of letters, a longer run of digits and any other byte are illegal tokens.");
        Texts.error("milestone abcdefghij 10 1 when always;", 1, 10);
        Texts.error(M + "proof abcdefghij;", 1, AT + 6);
        Texts.error(M + "done abcdefghij;", 1, AT + 5);
        Texts.error("milestones a 10 1 when always;", 1, 0);
        Texts.error("milestone " + "a".repeat(600) + " 10 1 when always;", 1, 10);
        Texts.error("deposit 000007;", 1, 8);
        Texts.error("deposit 100000;", 1, 8);
        Texts.error("deposit " + "0".repeat(600) + "1;", 1, 8);
        Texts.error(M + "day 000001;", 1, AT + 4);
    }

    private static void tokensExtend() {
        Document.says("TEXT", "A token extends as far as possible.");
        Texts.legal("fee5;", 0);
        Texts.legal("rate5 360;", 0);
        Texts.legal("milestone a10 1when always;", 1);
        Texts.legal(M + "day5or day6and(sum7)or(always);", 1);
        Texts.error("fees 5;", 2, 0);
        Texts.error("fee 5 5;", 2, 6);
        Texts.error("feegrace 5;", 2, 0);
        Texts.error("rate 5 3605;", 3, 7);
        Texts.error("rate 5360;", 3, 5);
        Texts.error("rate 536 0;", 3, 9);
        Texts.error("milestone a 101 when always;", 2, 16);
        Texts.error(M + "alwaysand always;", 2, AT);
        Texts.error(M + "approvedor always;", 1, AT);
        Texts.error(M + "notalways;", 2, AT);
        Texts.error("milestone awhen 10 1 always;", 2, 21);
    }

    private static void blanks() {
        Document.says("TEXT", "Spaces (32) and line feeds (10) may stand before the first token, between tokens and behind the"
            + " last token.");
        String[] tokens = {"milestone", "a", "10", "1", "when", "(", "not", "day", "5", ")", "or", "approved", ";"};
        for (String blank : new String[] {" ", "\n", "  ", "\n\n", " \n \n"}) {
            Texts.legal(blank, 0);
            Texts.legal(blank + String.join(blank, tokens) + blank, 1);
            Texts.legal(String.join(blank, tokens), 1);
        }
        Texts.legal("milestone a 10 1 when(not day 5)or approved;", 1);
        Texts.error("mile stone a 10 1 when always;", 2, 0);
        Texts.error("milestone a 1 0 1 when always;", 2, 16);
        Texts.error(M + "al\nways;", 2, AT);
    }

    /** Every byte there is: behind a statement, before the text, behind a word and as the whole text. */
    private static void otherBytes() {
        Document.says("TEXT", "A longer run of letters, a longer run of digits and any other byte are illegal tokens.");
        for (int sign = 0; sign < 256; sign++) {
            char one = (char) sign;
            boolean blank = sign == 32 || sign == 10;
            boolean letter = sign >= 'a' && sign <= 'z';
            boolean digit = sign >= '0' && sign <= '9';
            boolean character = one == '(' || one == ')' || one == ';';
            int kind = letter || digit || character ? 2 : 1;
            if (blank) {
                Texts.legal("deposit 5;" + one + "deposit 6;", 0);
                Texts.legal(one + "deposit 5;", 0);
                Texts.legal("deposit" + one + "5;", 0);
                Texts.legal("deposit 5;" + one, 0);
                Texts.legal("" + one, 0);
            } else {
                Texts.error("deposit 5;" + one + "deposit 6;", kind, 10);
                Texts.error(one + "deposit 5;", kind, 0);
                Texts.error("deposit 5;" + one, kind, 10);
                Texts.error("" + one, kind, 0);
            }
            if (digit) {
                Texts.legal("deposit" + one + "5;", 0);
            } else if (!blank) {
                Texts.error("deposit" + one + "5;", kind, letter ? 0 : 7);
            }
        }
    }

    private static void statements() {
        Document.says("TEXT", "The text is a sequence of statements;");
        Texts.legal("grace 1; milestone a 1 1 when always; fee 1; deposit 1; rate 1 360; deposit 1; milestone b 1 1 when"
            + " always;", 2);
        Texts.error("deposit 1;;", 2, 10);
        Texts.error("; deposit 1;", 2, 0);
        Texts.error("deposit 1; 5", 2, 11);
        Texts.error("deposit 1; a", 2, 11);
        Texts.error("deposit 1; (", 2, 11);
        Document.says("TEXT", "{ x } stands for any number of x, also none:");
        Texts.legal("", 0);
        Texts.legal("fee 1;".repeat(116), 0);
        Texts.legal(M + "always;", 1);
        Texts.legal(M + "always" + " or always".repeat(66) + ";", 1);
        Texts.legal(M + "always" + " and always".repeat(60) + ";", 1);
        EscrowDesk x = new EscrowDesk();
        for (int times = 0; times < 20; times++) {
            String wide = "milestone a 1 1 when day 9" + "or day9".repeat(96) + ";";
            Check.due("as many as fit in, time and again", 1, Desks.load(x, wide));
        }
        Check.due("all of them count", 9, x.dayByClock(0));
        Document.says("TEXT", "statement = \"rate\" RATE BASIS \";\" |");
        Texts.legal("rate 1 360; fee 1; grace 1; deposit 1; milestone a 1 1 when always;", 1);
        spoilEachPlace("rate", "1", "360", ";");
        spoilEachPlace("fee", "1", ";");
        spoilEachPlace("grace", "1", ";");
        spoilEachPlace("deposit", "1", ";");
        spoilEachPlace("milestone", "a", "1", "1", "when", "always", ";");
    }

    private static void conditions() {
        Document.says("TEXT", "condition = both { \"or\" both }.     both = fact { \"and\" fact }.");
        spoilEachPlace("milestone", "a", "1", "1", "when", "always", "or", "always", "and", "always", "or", "approved", ";");
        Texts.error(M + "or always;", 2, AT);
        Texts.error(M + "and always;", 2, AT);
        Texts.error(M + "always or and always;", 2, AT + 10);
        Texts.error(M + "always always;", 2, AT + 7);
        Document.says("TEXT", "fact = \"not\" fact | \"(\" condition \")\" |");
        spoilEachPlace("milestone", "a", "1", "1", "when", "not", "not", "always", ";");
        spoilEachPlace("milestone", "a", "1", "1", "when", "(", "not", "(", "always", ")", "or", "always", ")", ";");
        spoilEachPlace("milestone", "a", "1", "1", "when", "day", "5", ";");
        spoilEachPlace("milestone", "a", "1", "1", "when", "sum", "5", ";");
        spoilEachPlace("milestone", "a", "1", "1", "when", "proof", "p", ";");
        spoilEachPlace("milestone", "z", "1", "1", "when", "always", ";", "milestone", "a", "1", "1", "when", "done", "z", ";");
        spoilEachPlace("milestone", "a", "1", "1", "when", "approved", "and", "always", ";");
        Texts.error(M + "();", 2, AT + 1);
        Texts.error(M + "(always;", 2, AT + 7);
        Texts.error(M + "always);", 2, AT + 6);
        Texts.error(M + "not;", 2, AT + 3);
        Texts.error(M + "not or always;", 2, AT + 4);
        Texts.error(M + "a;", 2, AT);
        Texts.error(M + "5;", 2, AT);
    }

    /** At each place of a legal text: the end, an illegal token, and a word that is due nowhere but in its own place. */
    private static void spoilEachPlace(String... tokens) {
        String text = "";
        boolean whole = true;
        for (String token : tokens) {
            if (!whole) {
                Texts.error(text, 2, text.length());
            }
            Texts.error(text + "? " + token, 1, text.length());
            if (!token.equals("when")) {
                Texts.error(text + "when " + token, 2, text.length());
            } else {
                Texts.error(text + "always " + token, 2, text.length());
            }
            whole = token.equals(";");
            text += token + " ";
        }
        Check.due(text, true, Desks.load(new EscrowDesk(), text) >= 0);
    }

    private static void range(String clause, String before, String behind, int low, int high) {
        Document.says("TEXT", clause);
        Check.due(before + low, true, Desks.load(new EscrowDesk(), before + low + behind) >= 0);
        Check.due(before + high, true, Desks.load(new EscrowDesk(), before + high + behind) >= 0);
        if (low > 0) {
            Texts.error(before + (low - 1) + behind, 3, before.length());
        }
        // A number of six digits is an illegal token: the first one behind 99999 is one.
        Texts.error(before + (high + 1) + behind, high < 99999 ? 3 : 1, before.length());
    }

    private static void numbers() {
        range("RATE is 0 to 3000, BASIS is 360 or 365;", "rate ", " 360;", 0, 3000);
        for (int basis : new int[] {360, 365}) {
            Texts.legal("rate 5 " + basis + ";", 0);
            Texts.error("rate 5 " + (basis - 1) + ";", 3, 7);
            Texts.error("rate 5 " + (basis + 1) + ";", 3, 7);
        }
        Texts.error("rate 5 0;", 3, 7);
        Texts.error("rate 5 99999;", 3, 7);
        Check.due("rate 3000 is 3000", 3000, Desks.of("rate 3000 360;").setRate(0, 360));
        range("FEE is 0 to 2000;", "fee ", ";", 0, 2000);
        Check.due("fee 2000 is 2000", 2000, Desks.of("fee 2000; deposit 10000; milestone a 10000 1 when always;").pay(0, 10000));
        range("GRACE is 0 to 60;", "grace ", ";", 0, 60);
        Check.due("grace 60 is 60", 60, Desks.of("grace 60;").setGrace(0));
        range("AMOUNT is 1 to 99999;", "deposit ", ";", 1, 99999);
        range("AMOUNT is 1 to 99999;", "milestone a ", " 1 when always;", 1, 99999);
        Check.due("deposit 99999 is 99999", 99999, Desks.of("deposit 99999;").deposited());
        Check.due("deposit 1 is 1", 1, Desks.of("deposit 1;").deposited());
        Check.due("an amount of 99999 is 99999", 99999, Desks.of("milestone a 99999 1 when always;").remaining(0));
        range("PRIORITY is 0 to 99;", "milestone a 1 ", " when always;", 0, 99);
        EscrowDesk x = Desks.of("milestone a 1 99 when always; milestone b 1 98 when always; milestone c 1 0 when always;");
        x.pass(1);
        Check.due("priority 0 comes first", 2, x.dueAt(0));
        Check.due("then 98", 1, x.dueAt(1));
        Check.due("then 99", 0, x.dueAt(2));
        range("DAY is 0 to 999;", M + "day ", ";", 0, 999);
        Check.due("day 0 is day 0", true, Desks.of(M + "day 0;").holds(0));
        EscrowDesk y = Desks.of(M + "day 999;");
        pass(y, 998);
        Check.due("day 999 on day 998", false, y.holds(0));
        y.pass(1);
        Check.due("day 999 on day 999", true, y.holds(0));
        range("SUM is 0 to 99999.", M + "sum ", ";", 0, 99999);
        Check.due("sum 0 holds at once", true, Desks.of(M + "sum 0;").holds(0));
        EscrowDesk z = Desks.of("deposit 99999; milestone b 99999 1 when always; milestone a 10 1 when sum 99999;");
        z.pay(0, 99998);
        Check.due("sum 99999 with 99998", false, z.holds(1));
        z.pay(0, 1);
        Check.due("sum 99999 with 99999", true, z.holds(1));
    }

    private static void pass(EscrowDesk x, int days) {
        for (int left = days; left > 0; left -= 120) {
            x.pass(Math.min(left, 120));
        }
    }

    private static void quotedWords() {
        Document.says("TEXT", "NAME, PROOF and MILESTONE are words other than the words in quotes above.");
        for (String word : QUOTED) {
            Texts.error("milestone " + word + " 1 1 when always;", 2, 10);
            Texts.error(M + "proof " + word + ";", 2, AT + 6);
            Texts.error(M + "done " + word + ";", 2, AT + 5);
            String shorter = word.substring(0, word.length() - 1);
            String other = (word.charAt(0) == 'z' ? 'y' : 'z') + word.substring(1);
            for (String near : new String[] {shorter, other, word.length() < 9 ? word + "s" : word.substring(1)}) {
                Texts.legal("milestone " + near + " 1 1 when proof " + near + "; milestone b 1 1 when done " + near + ";", 2);
            }
        }
    }

    private static void names() {
        Document.says("TEXT", "A NAME must not be that of an earlier milestone;");
        String two = "milestone abcdefghi 1 1 when always; milestone b 1 1 when always;";
        Texts.legal(two + "milestone abcdefghj 1 1 when always;", 3);
        Texts.legal(two + "milestone bb 1 1 when always;", 3);
        Texts.legal(two + "milestone abcdefgh 1 1 when always;", 3);
        Texts.error(two + "milestone abcdefghi 1 1 when always;", 4, two.length() + 10);
        Texts.error(two + "milestone b 1 1 when always;", 4, two.length() + 10);
        Texts.legal("milestone p 1 1 when proof q; milestone q 1 1 when proof p;", 2);
        Document.says("TEXT", "a MILESTONE must be the name of an earlier milestone.");
        Texts.legal(two + "milestone c 1 1 when done abcdefghi and done b;", 3);
        Texts.error(two + "milestone c 1 1 when done c;", 4, two.length() + 26);
        Texts.error(two + "milestone c 1 1 when done d; milestone d 1 1 when always;", 4, two.length() + 26);
        Texts.error(two + "milestone c 1 1 when done abcdefgh;", 4, two.length() + 26);
        Texts.error(two + "milestone c 1 1 when proof p and done p;", 4, two.length() + 38);
        Texts.error(M + "done a;", 4, AT + 5);
        Texts.error(M + "done b;", 4, AT + 5);
        EscrowDesk x = Desks.of("deposit 9;" + two + "milestone c 1 1 when done b;");
        x.pay(0, 1);
        Check.due("another milestone is done", false, x.holds(2));
        x.pay(1, 1);
        Check.due("that milestone is done", true, x.holds(2));
    }

    private static void defaults() {
        Document.says("TEXT", "Without a rate statement the rate is 0 and the basis 365;");
        EscrowDesk x = Desks.of("deposit 99999;");
        x.pass(120);
        Check.due("no parts", 0, x.accruedParts());
        Check.due("the rate", 0, x.setRate(1, 365));
        Check.due("behind other texts", 0, behindOtherTexts("deposit 5;").setRate(1, 365));
        Check.due("rate 0 is the same", 0, Desks.of("rate 0 360;").setRate(1, 365));
        Check.due("rate 1 is not", 1, Desks.of("rate 1 360;").setRate(1, 365));
        Document.says("TEXT", "without a fee statement the fee is 0;");
        EscrowDesk y = Desks.of("deposit 99999; milestone a 99999 1 when always;");
        Check.due("no fee", 0, y.pay(0, 99999));
        Check.due("no fee, all for the seller", 99999, y.received());
        EscrowDesk later = behindOtherTexts("deposit 10000; milestone a 10000 1 when always;");
        Check.due("no fee behind other texts", 0, later.pay(0, 10000));
        Check.due("fee 1 is not the same", 9, Desks.of("fee 1; deposit 99999; milestone a 99999 1 when always;").pay(0, 99999));
        Document.says("TEXT", "without a grace statement the grace period is 0.");
        Check.due("the grace period", 0, Desks.of("deposit 5;").setGrace(1));
        Check.due("behind other texts", 0, behindOtherTexts("deposit 5;").setGrace(1));
        Check.due("paid on the due day", 5, Desks.of("deposit 5; milestone a 5 1 when always;").pass(1));
        Check.due("grace 1 is not the same", 0, Desks.of("grace 1; deposit 5; milestone a 5 1 when always;").pass(1));
    }

    /** What earlier texts said does not count, whether they were legal or not. */
    private static EscrowDesk behindOtherTexts(String text) {
        EscrowDesk x = new EscrowDesk();
        String other = "rate 3000 360; fee 2000; grace 60; deposit 7; milestone b 7 1 when proof p and day 5;";
        for (int times = 0; times < 2; times++) {
            Check.due(other, 1, Desks.load(x, other));
            Check.due(other + "?", EscrowDesk.BAD_TEXT, Desks.load(x, other + "?"));
        }
        Check.due(text, true, Desks.load(x, text) >= 0);
        Check.due("no proofs", 0, x.proofs());
        return x;
    }

    private static void repeatedStatements() {
        Document.says("TEXT", "If one of these statements is repeated, the last one counts.");
        Check.due("rate, the greater one last", 9, Desks.of("rate 5 360; rate 9 360;").setRate(1, 360));
        Check.due("rate, the smaller one last", 5, Desks.of("rate 9 360; rate 5 360;").setRate(1, 360));
        Check.due("rate, none last", 0, Desks.of("rate 9 360; rate 7 360; rate 0 365;").setRate(1, 360));
        Check.due("basis 365 last", 24, credit("rate 3000 360; deposit 1000; rate 3000 365;"));
        Check.due("basis 360 last", 25, credit("rate 3000 365; deposit 1000; rate 3000 360;"));
        Check.due("fee", 30, Desks.of("fee 100; fee 200; deposit 1000; milestone a 1000 1 when always; fee 300;").pay(0, 1000));
        Check.due("no fee last", 0, Desks.of("fee 100; deposit 1000; milestone a 1000 1 when always; fee 0;").pay(0, 1000));
        Check.due("grace", 7, Desks.of("grace 60; grace 8; milestone a 1 1 when always; grace 7;").setGrace(1));
        Check.due("no grace last", 0, Desks.of("grace 60; grace 0;").setGrace(1));
        Check.due("deposits are not replaced", 12, Desks.of("deposit 5; deposit 7;").deposited());
    }

    private static int credit(String text) {
        EscrowDesk x = Desks.of(text);
        x.pass(30);
        return x.credited();
    }

    private static void counts() {
        Document.says("TEXT", "There are at most 6 deposits and at most 10 milestones, which are numbered from 0 in the order"
            + " of the text;");
        String deposits = "deposit 1;deposit 20;deposit 300;deposit 4000;deposit 50000;deposit 60000;";
        Check.due("six deposits", 114321, Desks.of(deposits).deposited());
        Texts.error(deposits + "deposit 1;", 5, deposits.length());
        Texts.error(deposits + M + "always; deposit 1;", 5, deposits.length() + AT + 8);
        String nine = "";
        for (char name = 'a'; name <= 'i'; name++) {
            nine += "milestone " + name + " " + (name - 'a' + 1) + " 1 when always;";
        }
        Texts.legal(nine, 9);
        String ten = nine + "milestone j 10 1 when always;";
        Texts.legal(ten, 10);
        Texts.legal(ten + deposits, 10);
        Texts.error(ten + "milestone k 11 1 when always;", 5, ten.length());
        Texts.error(ten + "fee 1; milestone a 11 1 when always;", 5, ten.length() + 7);
        EscrowDesk x = Desks.of(ten);
        for (int milestone = 0; milestone < 10; milestone++) {
            Check.due("number " + milestone, (char) ('a' + milestone) + " open 0/" + (milestone + 1), Desks.line(x, milestone));
        }
        Check.noIndex("no number 10", () -> x.state(10));
        EscrowDesk y = Desks.of(ten + deposits);
        for (int entry = 0; entry < 6; entry++) {
            Check.due("deposit " + entry, new int[] {1, 20, 300, 4000, 50000, 60000}[entry], y.entry(entry, 2));
        }
    }

    private static void proofCounts() {
        Document.says("TEXT", "and at most 8 different PROOF words, which are numbered from 0 in the order of their first"
            + " occurrence.");
        String eight = M + "proof h and proof b or proof h or proof zz or proof z or proof a and proof c and proof d or proof e";
        Texts.legal(eight + ";", 1);
        Texts.legal(eight + " or proof z or proof h or proof e;", 1);
        Texts.legal(eight + "; milestone b 1 1 when proof e and proof zz;", 2);
        Texts.error(eight + " or proof f;", 5, eight.length() + 10);
        Texts.error(eight + "; milestone b 1 1 when proof zzz;", 5, eight.length() + 29);
        EscrowDesk x = Desks.of(eight + ";");
        Check.due("proofs", 8, x.proofs());
        String[] names = {"h", "b", "zz", "z", "a", "c", "d", "e"};
        for (int proof = 0; proof < 8; proof++) {
            Check.due("proof " + proof, names[proof].charAt(0), x.proofCharacter(proof, 0));
            int letters = names[proof].length();
            Check.due("its last letter", names[proof].charAt(letters - 1), x.proofCharacter(Math.min(proof, 7), letters - 1));
            int number = proof;
            Check.noIndex("no letter more", () -> x.proofCharacter(number, letters));
        }
        Check.noIndex("no proof 8", () -> x.isSubmitted(8) ? 1 : 0);
    }

    private static void openWithinEachOther() {
        Document.says("TEXT", "At most 8 \"not\" and \"(\" may be open within each other (a \"not\" is open until its fact"
            + " ends, a \"(\" until its \")\").");
        Texts.legal(M + "(".repeat(8) + "always" + ")".repeat(8) + ";", 1);
        Texts.error(M + "(".repeat(9) + "always" + ")".repeat(9) + ";", 5, AT + 8);
        Texts.legal(M + "not ".repeat(8) + "always;", 1);
        Texts.error(M + "not ".repeat(9) + "always;", 5, AT + 32);
        Texts.legal(M + "not(".repeat(4) + "always" + ")".repeat(4) + ";", 1);
        Texts.error(M + "not(".repeat(4) + "not always" + ")".repeat(4) + ";", 5, AT + 16);
        Texts.error(M + "not(".repeat(4) + "(always)" + ")".repeat(4) + ";", 5, AT + 16);
        Texts.error(M + "(".repeat(8) + "not always" + ")".repeat(8) + ";", 5, AT + 8);
        Texts.error(M + "not ".repeat(8) + "(always);", 5, AT + 32);
        // What is not open any more does not count.
        Texts.legal(M + "not ".repeat(8) + "always and " + "not ".repeat(8) + "always"
            + " or " + "(".repeat(8) + "always" + ")".repeat(8) + ";", 1);
        Texts.legal(M + "(".repeat(7) + "not always and not always or (always) and (always)" + ")".repeat(7) + ";", 1);
        Texts.error(M + "(".repeat(7) + "not always and not not always" + ")".repeat(7) + ";", 5, AT + 7 + 19);
        // Behind ) ) ) the three inner nots have ended with their facts: one not and one ( are open.
        String two = M + "not(not(not(not(always))) and ";
        Texts.legal(two + "(".repeat(6) + "always" + ")".repeat(7) + ";", 1);
        Texts.error(two + "(".repeat(7) + "always" + ")".repeat(8) + ";", 5, two.length() + 6);
        Texts.legal(two + "not ".repeat(6) + "always);", 1);
        Texts.error(two + "not ".repeat(7) + "always);", 5, two.length() + 24);
        // Each milestone begins anew.
        Texts.legal(M + "(".repeat(8) + "always" + ")".repeat(8) + "; milestone b 1 1 when " + "not ".repeat(8) + "always;", 2);
    }

    private static void firstError() {
        Document.says("TEXT", "The error of a text is its first token, from left to right, that cannot be continued to a legal"
            + " text;");
        Texts.error("deposit 0; fee 2001; ?", 3, 8);
        Texts.error("deposit 1; fee 2001; ?", 3, 15);
        Texts.error("deposit 1; fee 2000; ?", 1, 21);
        Texts.error("fee fee 2001;", 2, 4);
        Texts.error(M + "done b and (((((((((", 4, AT + 5);
        Texts.error(M + "(((((((((done b", 5, AT + 8);
        Texts.error("deposit 99999 deposit 0", 2, 14);
        Texts.error("rate 3001 1;", 3, 5);
        Texts.error("rate 3000 1;", 3, 10);
        Texts.error("milestone a 0 100 when", 3, 12);
        Texts.error("milestone a 1 100 when", 3, 14);
        Texts.error(M + "day 1000 and sum", 3, AT + 4);
        Texts.error("abcdefghij", 1, 0);
        Texts.error("   abcdefghij", 1, 3);
    }

    private static void endOfText() {
        Document.says("TEXT", "if the text ends too early, the error is at the end and its position is the length of the text.");
        String[] cut = {"rate", "rate 1", "rate 1 360", "fee", "fee 1", "grace", "grace 1", "deposit", "deposit 1", "milestone",
            "milestone a", "milestone a 1", "milestone a 1 1", "milestone a 1 1 when", M + "not", M + "(", M + "(always",
                M + "day",
            M + "proof", M + "done", M + "sum", M + "always", M + "day 5", M + "always or", M + "always and", M + "proof p"};
        for (String text : cut) {
            Texts.error(text, 2, text.length());
            Texts.error(text + " \n ", 2, text.length() + 3);
            Texts.error("deposit 5;\n" + text, 2, text.length() + 11);
        }
        EscrowDesk x = new EscrowDesk();
        Desks.feed(x, "deposit 5;");
        Check.due("the text ends where load() says", EscrowDesk.BAD_TEXT, x.load(9));
        Check.due("its error is there", 9, x.errorPosition());
        Desks.feed(x, "deposit 5;");
        Check.due("with a byte more it does not end too early", 0, x.load(10));
        Texts.legal("", 0);
    }

    private static void kinds() {
        Document.says("TEXT", "The kinds of errors are: 1 illegal token;");
        Texts.error("?", 1, 0);
        Texts.error("deposit 123456;", 1, 8);
        Texts.error("milestone abcdefghij", 1, 10);
        Document.says("TEXT", "2 another token was expected (also a word in quotes where a NAME, PROOF or MILESTONE must"
            + " stand);");
        Texts.error("deposit x;", 2, 8);
        Texts.error("milestone when", 2, 10);
        Texts.error(M + "proof when", 2, AT + 6);
        Texts.error(M + "done when", 2, AT + 5);
        Document.says("TEXT", "3 a number is out of range (a BASIS other than 360 and 365, too);");
        Texts.error("deposit 0;", 3, 8);
        Texts.error("rate 0 361;", 3, 7);
        Texts.error("rate 0 364;", 3, 7);
        Document.says("TEXT", "4 a NAME that an earlier milestone has, or a MILESTONE that no earlier milestone is;");
        Texts.error(M + "always; milestone a", 4, AT + 18);
        Texts.error(M + "always; milestone b 1 1 when done b", 4, AT + 34);
        Document.says("TEXT", "5 too many: the word deposit or milestone of a statement too many, a ninth PROOF word, the"
            + " ninth open \"not\" or \"(\".");
        String six = "deposit 1;".repeat(6);
        Texts.error(six + "deposit", 5, 60);
        String ten = "";
        for (char name = 'a'; name <= 'j'; name++) {
            ten += "milestone " + name + " 1 1 when proof " + (char) Math.min(name, 'h') + ";";
        }
        Texts.error(ten + "milestone", 5, ten.length());
        String eight = ten.substring(0, ten.indexOf("milestone i"));
        Texts.error(eight + M.replace(" a ", " k ") + "proof k", 5, eight.length() + AT + 6);
        Texts.error(M + "not ".repeat(8) + "not", 5, AT + 32);
        Texts.error(M + "(".repeat(8) + "(", 5, AT + 8);
    }

    private static void smallerKind() {
        Document.says("TEXT", "If two kinds apply to one token, the smaller kind is reported.");
        String six = "deposit 1;".repeat(6);
        String eight = M + "proof a or proof b or proof c or proof d or proof e or proof f or proof g or proof h";
        // 1 and 2: an illegal token where another one was expected; 1 and 3: too large, and too long as well.
        Texts.error("abcdefghij 5;", 1, 0);
        Texts.error("deposit 5 ?", 1, 10);
        Texts.error("fee 999999;", 1, 4);
        Texts.error("rate 1 000361;", 1, 7);
        // 1 and 4, 1 and 5: the token would be a wrong name or one too many.
        Texts.error(M + "done abcdefghij;", 1, AT + 5);
        Texts.error(eight + " or proof abcdefghij;", 1, eight.length() + 10);
        // 2 and 3: a number out of every range where none must stand.
        Texts.error("deposit 5 0;", 2, 10);
        Texts.error("milestone 0 0 0", 2, 10);
        // 2 and 4: no milestone has such a name, and none can have it.
        Texts.error(M + "done fee;", 2, AT + 5);
        // 2 and 5: one too many where none must stand at all.
        Texts.error(six + "deposit", 5, 60);
        Texts.error(six + "fee deposit", 2, 64);
        Texts.error(eight + " or proof day;", 2, eight.length() + 10);
        Texts.error(M + "(".repeat(8) + "always not", 2, AT + 15);
        Texts.error(M + "(".repeat(8) + "day not", 2, AT + 12);
        Texts.error(M + "not ".repeat(8) + "proof (", 2, AT + 38);
    }
}
