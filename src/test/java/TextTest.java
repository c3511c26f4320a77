/** Promises 1 to 5: a new object, feed, load, errorKind, errorPosition; and the language of the text. */
final class TextTest {
    private static final String M = "milestone a 10 1 when ";

    public static void main(String[] args) {
        Check.parts(TextTest::newObject, TextTest::feed, TextTest::loadLength, TextTest::legalTexts,
            TextTest::illegalTokens, TextTest::unexpectedTokens, TextTest::ranges, TextTest::names,
            TextTest::tooMany, TextTest::badTextKeepsAll, TextTest::goodTextRenewsAll,
            TextTest::textsOneAfterAnother, TextTest::textsOfManyTokens);
        Check.end("TextTest");
    }

    private static void newObject() {
        EscrowDesk x = new EscrowDesk();
        Check.due("new: milestones", 0, x.milestones());
        Check.due("new: proofs", 0, x.proofs());
        Check.due("new: day", 0, x.day());
        Check.due("new: deposited", 0, x.deposited());
        Check.due("new: principal", 0, x.principal());
        Check.due("new: available", 0, x.available());
        Check.due("new: pot", 0, x.interestPot());
        Check.due("new: credited", 0, x.credited());
        Check.due("new: parts", 0, x.accruedParts());
        Check.due("new: entries", 0, x.entries());
        Check.due("new: undo", EscrowDesk.NONE, x.undo());
        Check.due("new: errorKind", 0, x.errorKind());
        Check.due("new: errorPosition", EscrowDesk.NONE, x.errorPosition());
        Check.due("new: grace", 0, x.setGrace(3));
        Check.due("new: rate", 0, x.setRate(5, 360));
        Check.noArgument("new: the buffer is empty", () -> x.load(1));
        Check.due("new: load(0)", 0, x.load(0));
        Check.due("basis of an empty text is 365", 300, creditOfADefaultBasis());
    }

    /** 36500 units at a rate of 1000 are 36500000 parts a day; in 30 days 300 units of 3650000 parts. */
    private static int creditOfADefaultBasis() {
        EscrowDesk x = Desks.of("rate 1000 360; deposit 36500; rate 1000 365;");
        x.pass(30);
        return x.credited();
    }

    private static void feed() {
        EscrowDesk x = new EscrowDesk();
        for (int feeds = 1; feeds <= 35; feeds++) {
            Check.due("feed " + feeds, 20 * feeds, x.feed(0x20202020, 0x20202020, 0x20202020, 0x20202020, 0x20202020));
        }
        Check.due("feed 36", EscrowDesk.FULL, x.feed(0, 0, 0, 0, 0));
        Check.noArgument("701 bytes", () -> x.load(701));
        Check.due("700 spaces", 0, x.load(700));
        Check.due("the buffer is empty again", 20, x.feed(0x64657020, 0, 0, 0, 0));

        EscrowDesk y = new EscrowDesk();
        Check.due("bytes in order", 20, y.feed(0x6d696c65, 0x73746f6e, 0x65206120, 0x31203220, 0x7768656e));
        Check.due("bytes in order, on", 40, y.feed(0x20616c77, 0x6179733b, 0x80ff00c3, 0xffffffff, 0x80808080));
        Check.due("load what was fed", 1, y.load(28));
        Check.due("the name that was fed", "a open 0/1", Desks.line(y, 0));

        EscrowDesk z = new EscrowDesk();
        z.feed(0x20202080, 0, 0, 0, 0);
        Check.due("a byte over 127", EscrowDesk.BAD_TEXT, z.load(4));
        Check.due("a byte over 127: position", 3, z.errorPosition());
    }

    private static void loadLength() {
        EscrowDesk x = new EscrowDesk();
        Desks.feed(x, "deposit 5; deposit 6");
        Check.noArgument("load(-1)", () -> x.load(-1));
        Check.noArgument("load(21)", () -> x.load(21));
        Check.noArgument("load(min)", () -> x.load(Integer.MIN_VALUE));
        Check.noArgument("load(max)", () -> x.load(Integer.MAX_VALUE));
        Check.due("the buffer kept its bytes", 40, x.feed(0x3b202020, 0, 0, 0, 0));
        Check.due("load of a part", 0, x.load(10));
        Check.due("only the part was read", 5, x.deposited());
        Check.noArgument("the buffer was emptied", () -> x.load(1));
        Desks.feed(x, "deposit 5; deposit 6");
        Check.due("a text that is not legal", EscrowDesk.BAD_TEXT, x.load(20));
        Check.noArgument("the buffer was emptied by a bad text", () -> x.load(1));
        Check.due("the error stays when load throws", 2, x.errorKind());
        Check.due("the position stays when load throws", 20, x.errorPosition());
        Check.due("an empty text", 0, x.load(0));
        Check.due("no error now", 0, x.errorKind());
        Check.due("no position now", EscrowDesk.NONE, x.errorPosition());
    }

    private static void legalTexts() {
        Texts.legal("", 0);
        Texts.legal(" \n ", 0);
        Texts.legal("\nrate 0 360;rate 3000 365;fee 0;fee 2000;grace 0;grace 60;deposit 1;deposit 99999;", 0);
        Texts.legal("rate3000\n365;fee00007;", 0);
        Texts.legal("milestone abcdefghi 99999 99 when always;milestone b 1 0 when done abcdefghi;", 2);
        Texts.legal(M + "day 0 or day 999 and proof a or sum 0 and sum 99999 or approved;", 1);
        Texts.legal(M + "not not(not(not(always)and not approved)or(day 3));", 1);
        Texts.legal(M + "not(not(not(not(always))));", 1);
        Texts.legal(M + "((((((((always)))))))) and ((((((((always))))))));", 1);
        Texts.legal(M + "not not not not not not not not always or not not not not not not not not always;", 1);
        Texts.legal(M + "proof rates or proof a or proof daya;", 1);
        Texts.legal(M + "(always) ; \n", 1);
    }

    private static void illegalTokens() {
        Texts.error("deposit 5 ,", 1, 10);
        Texts.error("Deposit 5;", 1, 0);
        Texts.error("deposit 5;\t", 1, 10);
        Texts.error("deposit -5;", 1, 8);
        Texts.error("deposit 000001;", 1, 8);
        Texts.error("milestone abcdefghij 1 1 when always;", 1, 10);
        Texts.error("depositdeposit", 1, 0);
        Texts.error("deposit 5{", 1, 9);
        Texts.error("deposit 5`", 1, 9);
        Texts.error("deposit 5/", 1, 9);
        Texts.error("deposit 5:", 1, 9);
        Texts.error("deposit_5", 1, 7);
        Texts.error("deposit 0 ?", 3, 8);
        Texts.error("deposit deposit ?", 2, 8);
        Texts.error(M + "proof ?", 1, 28);
        Texts.error(M + "done ?", 1, 27);
        Texts.error("milestone ? 1 1 when always;", 1, 10);
        Texts.error("rate 5 123456;", 1, 7);
    }

    private static void unexpectedTokens() {
        Texts.error("hello", 2, 0);
        Texts.error(";", 2, 0);
        Texts.error("5", 2, 0);
        Texts.error("when", 2, 0);
        Texts.error("deposit", 2, 7);
        Texts.error("deposit 5  ", 2, 11);
        Texts.error("deposit 5 deposit 6;", 2, 10);
        Texts.error("deposit ;", 2, 8);
        Texts.error("deposit x;", 2, 8);
        Texts.error("rate 5;", 2, 6);
        Texts.error("rate ;", 2, 5);
        Texts.error("rate 5 360 1;", 2, 11);
        Texts.error("rate 5 x", 2, 7);
        Texts.error("fee x;", 2, 4);
        Texts.error("fee 5 5;", 2, 6);
        Texts.error("grace (;", 2, 6);
        Texts.error("grace 5 )", 2, 8);
        Texts.error("milestone 5 1 1 when always;", 2, 10);
        Texts.error("milestone ; 1 1 when always;", 2, 10);
        Texts.error("milestone a x 1 when always;", 2, 12);
        Texts.error("milestone a 1 when always;", 2, 14);
        Texts.error("milestone a 1 1 always;", 2, 16);
        Texts.error(M + ";", 2, 22);
        Texts.error(M + "always", 2, 28);
        Texts.error(M + "always always;", 2, 29);
        Texts.error(M + "always);", 2, 28);
        Texts.error(M + "(always;", 2, 29);
        Texts.error(M + "(always", 2, 29);
        Texts.error(M + "();", 2, 23);
        Texts.error(M + "and always;", 2, 22);
        Texts.error(M + "always or;", 2, 31);
        Texts.error(M + "always and or always;", 2, 33);
        Texts.error(M + "not;", 2, 25);
        Texts.error(M + "day x;", 2, 26);
        Texts.error(M + "day;", 2, 25);
        Texts.error(M + "sum proof;", 2, 26);
        Texts.error(M + "proof 5;", 2, 28);
        Texts.error(M + "done 5;", 2, 27);
        Texts.error(M + "approved 5;", 2, 31);
        Texts.error(M + "when;", 2, 22);
        Texts.error(M + "b;", 2, 22);
        String[] words = {"rate", "fee", "grace", "deposit", "milestone", "when", "or", "and", "not", "day", "proof",
            "done", "sum", "approved", "always"};
        for (String word : words) {
            Texts.error("milestone " + word + " 1 1 when always;", 2, 10);
            Texts.error(M + "proof " + word + ";", 2, 28);
            Texts.error(M + "done " + word + ";", 2, 27);
        }
    }

    private static void ranges() {
        Texts.error("rate 3001 360;", 3, 5);
        Texts.error("rate 99999 360;", 3, 5);
        for (int basis : new int[] {0, 359, 361, 362, 363, 364, 366, 99999}) {
            Texts.error("rate 1 " + basis + ";", 3, 7);
        }
        Texts.error("fee 2001;", 3, 4);
        Texts.error("grace 61;", 3, 6);
        Texts.error("deposit 0;", 3, 8);
        Texts.error("deposit 00000;", 3, 8);
        Texts.error("milestone a 0 1 when always;", 3, 12);
        Texts.error("milestone a 1 100 when always;", 3, 14);
        Texts.error(M + "day 1000;", 3, 26);
        Texts.legal(M + "sum 99999;", 1);
        Texts.legal("milestone a 1 0 when day 999;", 1);
    }

    private static void names() {
        Texts.error("milestone a 1 1 when always; milestone a", 4, 39);
        Texts.error("milestone aa 1 1 when always; milestone a 1 1 when always; milestone aa", 4, 69);
        Texts.legal("milestone a 1 1 when always; milestone aa 1 1 when done a; milestone b 1 1 when done aa;", 3);
        Texts.error("milestone a 1 1 when done a;", 4, 26);
        Texts.error("milestone a 1 1 when proof b and done b;", 4, 38);
        Texts.error("milestone a 1 1 when always; milestone b 1 1 when done c; milestone c 1 1 when always;", 4, 55);
        Texts.legal("milestone a 1 1 when proof a; milestone b 1 1 when proof b and done a;", 2);
    }

    private static void tooMany() {
        String six = "deposit 1;deposit 1;deposit 1;deposit 1;deposit 1;deposit 1;";
        Texts.legal(six, 0);
        Texts.error(six + " deposit", 5, 61);
        Texts.error(six + "deposit 0;", 5, 60);
        StringBuilder ten = new StringBuilder();
        for (char name = 'a'; name <= 'j'; name++) {
            ten.append("milestone ").append(name).append(" 1 1 when always;");
        }
        Texts.legal(ten.toString(), 10);
        Texts.error(ten + "milestone", 5, ten.length());
        Texts.error(ten + "deposit 1; milestone a", 5, ten.length() + 11);
        String eight = M + "proof a or proof b or proof c or proof d or proof e or proof f or proof g or proof h";
        Texts.legal(eight + " or proof a or proof h;", 1);
        Texts.error(eight + " or proof i;", 5, eight.length() + 10);
        Texts.error(eight + " or proof or", 2, eight.length() + 10);
        Texts.error(eight + "; milestone b 1 1 when proof a and proof x;", 5, eight.length() + 41);
        Texts.error(M + "((((((((( always", 5, 30);
        Texts.error(M + "not not not not not not not not not", 5, 54);
        Texts.error(M + "not (not (not (not (not always", 5, 42);
        Texts.error(M + "not(not(not(not(always or day 1 and (always", 5, 58);
        Texts.error(M + "((((((((always)) and (not (", 5, 48);
    }

    private static void badTextKeepsAll() {
        EscrowDesk x = Desks.of("rate 100 360; grace 2; deposit 50; milestone a 10 1 when proof p;");
        x.submit(0);
        x.pass(2);
        x.write(0);
        Check.due("a bad text", EscrowDesk.BAD_TEXT, Desks.load(x, "fee 5; deposit 70; milestone b 1 1 when proof q; ?"));
        Check.due("it keeps the deposits", 50, x.deposited());
        Check.due("it keeps the milestones", "a due 0/10 since 1", Desks.line(x, 0));
        Check.due("it keeps the proofs", 'p', x.proofCharacter(0, 0));
        Check.due("it keeps the day", 2, x.day());
        Check.due("it keeps the ledger", 1, x.entries());
        Check.due("it keeps the edits", 1, x.undo());
    }

    /** Whatever earlier texts said, legal or not, is forgotten: the second and the third text after it, too. */
    private static void textsOneAfterAnother() {
        EscrowDesk x = new EscrowDesk();
        String full = "rate 3000 360; fee 2000; grace 9; deposit 5000; milestone a 10 1 when proof p and proof q;";
        for (int times = 0; times < 3; times++) {
            Check.due("a full text", 1, Desks.load(x, full));
            Check.due("its proofs", 2, x.proofs());
            x.dispute(0);
            x.resolve(0, 0);
            Check.due("a refund", 10, x.refunded());
            Check.due("a full text that is not legal", EscrowDesk.BAD_TEXT, Desks.load(x, full + "fee 1; ?"));
            Check.due("a text with a milestone alone", 1, Desks.load(x, "milestone b 70 1 when proof r;"));
            Check.due("no deposits", 0, x.deposited());
            Check.due("no refund", 0, x.refunded());
            Check.due("one proof", 1, x.proofs());
            Check.due("its name", 'r', x.proofCharacter(0, 0));
            Check.due("no rate", 0, x.setRate(0, 365));
            Check.due("no grace", 0, x.setGrace(0));
            x.deposit(70);
            Check.due("no fee", 0, x.pay(0, 70));
        }
        String wide = "milestone a 1 1 when day 9" + " or day 9".repeat(70) + ";";
        for (int times = 0; times < 20; times++) {
            Check.due("a wide condition again and again", 1, Desks.load(x, wide));
            Check.due("it is judged by its own days", 9, x.dayByClock(0));
        }
    }

    private static void textsOfManyTokens() {
        Texts.error(";".repeat(700), 2, 0);
        Texts.error("(".repeat(700), 2, 0);
        Texts.error("a".repeat(700), 1, 0);
        Texts.error("7".repeat(700), 1, 0);
        Texts.error("?".repeat(700), 1, 0);
        Texts.error("a 1".repeat(233) + "?", 2, 0);
        Texts.error(M + "(".repeat(678), 5, 30);
        Texts.error(" ".repeat(699) + ";", 2, 699);
        Texts.error(" ".repeat(693) + "deposit", 2, 700);
        Texts.legal("fee 1;".repeat(116) + "    ", 0);
    }

    private static void goodTextRenewsAll() {
        EscrowDesk x = Desks.of("rate 3000 360; fee 2000; grace 2; deposit 5000; milestone a 10 1 when always or proof p;"
            + "milestone b 10 1 when always; milestone c 10 1 when approved;");
        x.submit(0);
        x.approve(2);
        x.dispute(2);
        x.pass(60);
        Check.due("a good text", 3, Desks.load(x, "deposit 7; milestone d 5 1 when proof q; milestone e 6 1 when approved;"
            + "deposit 1; milestone f 6 1 when approved;"));
        Check.due("new day", 0, x.day());
        Check.due("new deposits", 8, x.deposited());
        Check.due("new principal", 8, x.principal());
        Check.due("new available", 8, x.available());
        Check.due("new pot", 0, x.interestPot());
        Check.due("new credits", 0, x.credited());
        Check.due("new parts", 0, x.accruedParts());
        Check.due("new received", 0, x.received());
        Check.due("new fees", 0, x.fees());
        Check.due("new refunds", 0, x.refunded());
        Check.due("new entries", 2, x.entries());
        Check.due("new entry 0", "0 0 7 -1", Desks.entry(x, 0));
        Check.due("new entry 1", "0 0 1 -1", Desks.entry(x, 1));
        Check.due("no edits", EscrowDesk.NONE, x.undo());
        Check.due("proof not submitted", false, x.isSubmitted(0));
        Check.due("not approved", false, x.holds(2));
        for (int milestone = 0; milestone < 3; milestone++) {
            Check.due("new state", 0, x.state(milestone));
            Check.due("new paid", 0, x.paid(milestone));
            Check.due("new frozen", 0, x.frozen(milestone));
            Check.due("new due day", EscrowDesk.NONE, x.dueDay(milestone));
        }
        Check.due("new rate", 0, x.setRate(1, 360));
        Check.due("new grace", 0, x.setGrace(1));
        Check.due("new fee", 0, x.pay(0, 5));
    }
}
