import static java.lang.Integer.MAX_VALUE;
import static java.lang.Integer.MIN_VALUE;

/**
 * The bounds that the document names for the tape, for villages and for rules (Terms, promises 1 to 5), a method or
 * a row of answers for each of its sentences. In a faulty text ^ stands ahead of the place of its fault.
 */
public final class BoundsOfTextsTest {
    private static final Due DUE = new Due();

    public static void main(String[] args) {
        tapeFull();
        tapeCut();
        villageBytes();
        villageClauses();
        villageOnceAndFirst();
        villageNumbers();
        numbersOfClauses();
        villageHouses();
        anotherHouse();
        toldAgain();
        sixToolsAndWorks();
        asItBegins();
        villageTold();
        villageRefused();
        ruleTold();
        ruleRefused();
        ruleClauses();
        ruleGrammar();
        digits();
        letters();
        blanks();
        deep();
        sixty();
        firstFault();
        leastFault();
        readAnew();
        DUE.close();
    }

    private static void is(String call, long got, long want) {
        DUE.is(call, got, want);
    }

    private static void village(String text, int tools) {
        is("village() of '" + text + "'", Due.village(new LentTools(), text), tools);
    }

    private static void badVillage(String marked, int code) {
        String text = marked.replace("^", "");
        is("village() of '" + text + "'", Due.village(new LentTools(), text), Due.fault(marked.indexOf('^'), code));
    }

    private static void rule(String text) {
        is("rule() of '" + text + "'", Due.rule(new LentTools(), text), 0);
    }

    private static void badRule(String marked, int code) {
        String text = marked.replace("^", "");
        is("rule() of '" + text + "'", Due.rule(new LentTools(), text), Due.fault(marked.indexOf('^'), code));
    }

    private static String padded(String text, int length) {
        return text + " ".repeat(length - text.length());
    }

    // ---- the tape

    private static void tapeFull() {
        DUE.sentence("feed: NONE, and none comes, if it would have more than 400");
        LentTools x = new LentTools();
        for (int i = 1; i < 20; i++) is("feed", x.feed(0, 0, 0, 0, 0), 20 * i);
        is("the last twenty", x.feed(0, 0, 0, 0, 0), 400);
        is("twenty more", x.feed(1, 1, 1, 1, 1), -1);
        is("none came", x.count(11), 400);
        is("cut by one", x.end(381), 381);
        is("401 of them", x.feed(1, 1, 1, 1, 1), -1);
        is("none came again", x.count(11), 381);
        is("cut by another", x.end(380), 380);
        is("just 400", x.feed(1, 1, 1, 1, 1), 400);

        // The refused bytes would have told a tool.
        LentTools y = new LentTools();
        String text = padded("", 371) + "village 2 1";
        Due.tell(y, text);
        is("382 bytes", y.count(11), 382);
        int[] more = Due.numbers(";tool 0 0 0", 0);
        is("refused", y.feed(more[0], more[1], more[2], more[3], more[4]), -1);
        is("told without them", y.village(), 0);

        DUE.sentence("feed: of each number the highest first");
        LentTools z = new LentTools();
        is("five numbers", z.feed(0x76696c6c, 0x61676532, 0x20313b74, 0x6f6f6c31, 0x20342039), 20);
        is("their text", z.village(), 1);
        is("the last byte of the fifth", z.tool(0, 2), 9);
        is("the last byte of the fourth", z.tool(0, 0), 1);
        LentTools w = new LentTools();
        w.feed(-1, -1, -1, -1, -1);
        is("bytes of 255", w.village(), Due.fault(0, 0));
        w.feed(MIN_VALUE, MAX_VALUE, 0, 0, 0);
        is("bytes of 128", w.village(), Due.fault(0, 0));
    }

    private static void tapeCut() {
        DUE.sentence("end: NONE, and nothing happens, if it has not so many, or n is below 0");
        LentTools x = new LentTools();
        is("none of none", x.end(0), 0);
        is("one of none", x.end(1), -1);
        is("below 0 of none", x.end(-1), -1);
        for (int n : new int[] {-1, MIN_VALUE, 12, 400, MAX_VALUE}) {
            LentTools y = new LentTools();
            Due.tell(y, "village 2 1");
            is("end(" + n + ")", y.end(n), -1);
            is("bytes behind end(" + n + ")", y.count(11), 11);
            is("text behind end(" + n + ")", y.village(), 0);
        }
        DUE.sentence("end: the TAPE has its first n bytes alone");
        LentTools z = new LentTools();
        Due.tell(z, "village 2 1;tool 0 0 5");
        is("all it has", z.end(22), 22);
        is("cut", z.end(11), 11);
        is("cut again", z.end(11), 11);
        is("one more than it has now", z.end(12), -1);
        is("the first alone", z.village(), 0);
        Due.tell(z, "village 2 1");
        is("to nothing", z.end(0), 0);
        is("nothing", z.village(), Due.fault(0, 0));
    }

    // ---- villages

    private static void villageBytes() {
        DUE.sentence("A VILLAGE is a text of at most 400 bytes");
        LentTools x = new LentTools();
        is("400 bytes", Due.village(x, padded("village 2 1;tool 1 0 7", 400)), 1);
        is("houses", x.count(0), 2);
        village(padded("village 2 1", 399), 0);
        village(padded("", 389) + "village 2 1", 0);
        badVillage(padded("village 2 1", 399) + "^x", 0);
        badVillage(padded("village 2 1;", 400) + "^", 0);
        badVillage(padded("", 400) + "^", 0);
    }

    private static void villageClauses() {
        DUE.sentence("CLAUSE { ; CLAUSE }");
        badVillage("^", 0);
        badVillage("^;", 0);
        badVillage("^;village 2 1", 0);
        badVillage("village 2 1;^", 0);
        badVillage("village 2 1;^;trust 0 1", 0);
        badVillage("village 2 1 ^trust 0 1", 0);
        badVillage("village 2 1^,trust 0 1", 0);
        village("village 2 1", 0);

        DUE.sentence("40 at most");
        String forty = "village 2 1" + ";trust0 1".repeat(39);
        village(forty, 0);
        village("village 2 1;tool 0 0 0" + ";trust0 1".repeat(38), 1);
        badVillage(forty + ";^trust 0 1", 4);
        badVillage(forty + "; ^tool 0 0 0", 4);
        badVillage(forty + ";  ^work 0 0 1 1", 4);
        badVillage(forty + ";^thanks 0 1 1", 4);
        badVillage(forty + ";^village 2 1", 4);
        badVillage(forty + ";^trust 0 1;trust", 4);
        badVillage(forty + ";^", 0);
        village(forty.substring(0, forty.length() - 9) + ";work 0 0 1 1", 0);
    }

    private static void villageOnceAndFirst() {
        DUE.sentence("village: once, the first CLAUSE");
        badVillage("village 2 1;^village 2 1", 4);
        badVillage("village 2 1;tool 0 0 0; ^village 2 1", 4);
        badVillage("^tool 0 0 0;village 2 1", 4);
        badVillage("^trust 0 1;village 2 1", 4);
        badVillage("^work 0 0 1 1;village 2 1", 4);
        badVillage(" ^thanks 0 1 1;village 2 1", 4);
        badVillage("^tool", 4);
    }

    private static void villageNumbers() {
        DUE.sentence("HOUSES 2 to 6");
        LentTools x = new LentTools();
        badVillage("village ^0 5", 1);
        badVillage("village ^1 5", 1);
        is("two", Due.village(x, "village 2 5"), 0);
        is("two houses", x.count(0), 2);
        is("six", Due.village(x, "village 6 5"), 0);
        is("six houses", x.count(0), 6);
        badVillage("village ^7 5", 1);
        badVillage("village ^99999 5", 1);

        DUE.sentence("LATE 1 to 20");
        badVillage("village 2 ^0", 1);
        is("one", Due.village(x, "village 2 1"), 0);
        is("late 1", x.count(1), 1);
        is("twenty", Due.village(x, "village 2 20"), 0);
        is("late 20", x.count(1), 20);
        badVillage("village 2 ^21", 1);

        DUE.sentence("KIND 0 to 4");
        is("kinds of a tool", Due.village(x, "village 2 1;tool 0 0 5;tool 0 4 5"), 2);
        is("kind 0", x.tool(0, 1), 0);
        is("kind 4", x.tool(1, 1), 4);
        badVillage("village 2 1;tool 0 ^5 5", 1);
        Due.village(x, "village 2 1;work 0 0 1 1;work 0 4 1 1");
        is("kind 0 of a work", x.work(0, 1), 0);
        is("kind 4 of a work", x.work(1, 1), 4);
        badVillage("village 2 1;work 0 ^5 1 1", 1);

        DUE.sentence("EDGE 0 to 9");
        is("edges", Due.village(x, "village 2 1;tool 0 0 0;tool 0 0 9"), 2);
        is("edge 0", x.tool(0, 2), 0);
        is("edge 9", x.tool(1, 2), 9);
        badVillage("village 2 1;tool 0 0 ^10", 1);

        DUE.sentence("how SHARP, 1 to 20");
        badVillage("village 2 1;work 0 0 ^0 1", 1);
        Due.village(x, "village 2 1;work 0 0 1 5;work 0 0 20 5");
        is("sharp 1", x.work(0, 2), 1);
        is("sharp 20", x.work(1, 2), 20);
        badVillage("village 2 1;work 0 0 ^21 1", 1);

        DUE.sentence("PAY 1 to 50");
        badVillage("village 2 1;work 0 0 1 ^0", 1);
        Due.village(x, "village 2 1;work 0 0 5 1;work 0 0 5 50");
        is("pay 1", x.work(0, 3), 1);
        is("pay 50", x.work(1, 3), 50);
        badVillage("village 2 1;work 0 0 1 ^51", 1);

        DUE.sentence("thanks: so many, 0 to 9");
        Due.village(x, "village 2 1;thanks 0 1 0;thanks 1 0 9");
        is("none", x.house(0, 1, 1), 0);
        is("nine", x.house(1, 0, 1), 9);
        badVillage("village 2 1;thanks 0 1 ^10", 1);
    }

    private static void numbersOfClauses() {
        DUE.sentence("village NUMBER NUMBER | tool NUMBER NUMBER NUMBER | trust .. | work .. | thanks ..: no fewer, no more");
        String head = "village 6 20;";
        for (String clause : new String[] {"village 2 1", "tool 0 1 2", "trust 0 1", "work 0 1 2 3", "thanks 0 1 2"}) {
            String before = clause.startsWith("village") ? "" : head;
            village(before + clause, clause.startsWith("tool") ? 1 : 0);
            badVillage(before + clause + " ^1", 0);
            badVillage(before + clause + "^x", 0);
            for (int at = clause.length() - 2; at > 0; at = clause.lastIndexOf(' ', at - 1)) {
                badVillage(before + clause.substring(0, at) + "^", 0);
                badVillage(before + clause.substring(0, at) + " ^;tool 0 0 0", 0);
                badVillage(before + clause.substring(0, at) + " ^-1", 0);
                badVillage(before + clause.substring(0, at) + " ^123456", 1);
            }
        }
    }

    private static void villageHouses() {
        DUE.sentence("a HOUSE");
        for (int houses = 2; houses <= 6; houses++) {
            String head = "village " + houses + " 1;";
            int last = houses - 1;
            LentTools x = new LentTools();
            is("the last house", Due.village(x, head + "tool " + last + " 0 0;trust " + last + " 0;trust 0 " + last
                    + ";work " + last + " 0 1 1;thanks " + last + " 0 1;thanks 0 " + last + " 2"), 1);
            is("owner", x.tool(0, 0), last);
            is("place", x.work(0, 0), last);
            is("trusts", x.house(last, 0, 0) + x.house(0, last, 0), 2);
            is("owes", x.house(last, 0, 1), 1);
            is("is owed", x.house(0, last, 1), 2);
            badVillage(head + "tool ^" + houses + " 0 0", 1);
            badVillage(head + "trust ^" + houses + " 0", 1);
            badVillage(head + "trust 0 ^" + houses, 1);
            badVillage(head + "work ^" + houses + " 0 1 1", 1);
            badVillage(head + "thanks ^" + houses + " 0 1", 1);
            badVillage(head + "thanks 0 ^" + houses + " 1", 1);
        }
    }

    private static void anotherHouse() {
        DUE.sentence("of trust and thanks the second HOUSE, if it is the first");
        badVillage("village 2 1;trust 0 ^0", 1);
        badVillage("village 2 1;trust 1 ^1", 1);
        badVillage("village 6 1;trust 5  ^5", 1);
        badVillage("village 2 1;thanks 0 ^0 1", 1);
        badVillage("village 2 1;thanks 1 ^01 1", 1);
        // Of a tool and a work the numbers may be alike.
        village("village 2 1;tool 1 1 1;work 1 1 1 1", 1);
    }

    private static void toldAgain() {
        DUE.sentence("trust: told already: nothing new");
        LentTools x = Due.of("village 2 1;trust 0 1;trust 0 1");
        is("trusts", x.house(0, 1, 0), 1);
        is("not the other way", x.house(1, 0, 0), 0);
        DUE.is("one quarrel", x.quarrel(0, 1), true);
        is("trusts no more", x.house(0, 1, 0), 0);

        DUE.sentence("thanks: of these two the last told, 0 without");
        LentTools y = Due.of("village 3 1;thanks 0 1 9;thanks 1 0 4;thanks 0 1 3;thanks 2 0 5;thanks 2 0 0");
        is("the last", y.house(0, 1, 1), 3);
        is("the other way", y.house(1, 0, 1), 4);
        is("the last is 0", y.house(2, 0, 1), 0);
        is("without", y.house(1, 2, 1), 0);
        is("all together", y.count(8), 7);
    }

    private static void sixToolsAndWorks() {
        DUE.sentence("TOOLS 0 to 5, in the order told");
        String six = "village 6 1";
        for (int i = 0; i < 6; i++) six += ";tool " + (5 - i) + " " + i % 5 + " " + (9 - i);
        LentTools x = new LentTools();
        is("six tools", Due.village(x, six), 6);
        for (int i = 0; i < 6; i++) {
            is("owner of " + i, x.tool(i, 0), 5 - i);
            is("kind of " + i, x.tool(i, 1), i % 5);
            is("edge of " + i, x.tool(i, 2), 9 - i);
        }
        badVillage(six + ";^tool 0 0 0", 4);
        badVillage(six + ";trust 0 1; ^tool 0 0 0", 4);
        badVillage(six + ";^tool", 4);
        village("village 2 1", 0);

        DUE.sentence("WORKS 0 to 5, in the order told");
        String works = "village 6 1";
        for (int i = 0; i < 6; i++) works += ";work " + (5 - i) + " " + i % 5 + " " + (20 - i) + " " + (50 - i);
        is("six works", Due.village(x, works), 0);
        is("six", x.count(3), 6);
        for (int i = 0; i < 6; i++) {
            is("place of " + i, x.work(i, 0), 5 - i);
            is("kind of " + i, x.work(i, 1), i % 5);
            is("sharp of " + i, x.work(i, 2), 20 - i);
            is("pay of " + i, x.work(i, 3), 50 - i);
        }
        badVillage(works + ";^work 0 0 1 1", 4);
        badVillage(works + ";tool 0 0 0; ^work", 4);
        is("six of both", Due.village(x, six.replace("village 6 1", works)), 6);
    }

    private static void asItBegins() {
        DUE.sentence("It is DAY 0; each TOOL is with its OWNER; no WORK is done");
        LentTools x = Due.of("village 3 1;tool 2 0 5;tool 1 0 5;trust 2 1;trust 1 0;work 1 0 1 9;work 0 0 1 9");
        x.lend(0, 1);
        x.does(0);
        x.day();
        Due.village(x, "village 3 1;tool 2 0 5;tool 1 0 5;work 1 0 1 9;work 0 0 1 9");
        is("day", x.count(5), 0);
        is("earned", x.count(6), 0);
        is("done", x.count(7), 0);
        is("thanks", x.count(8), 0);
        is("trust", x.house(2, 1, 0), 0);
        for (int tool = 0; tool < 2; tool++) {
            is("with its owner", x.tool(tool, 3), 2 - tool);
            is("lent", x.tool(tool, 4), 0);
            is("out", x.tool(tool, 5), 0);
            is("blunt", x.tool(tool, 6), 0);
            is("not done", x.work(tool, 4), -1);
        }
        DUE.sentence("LentTools(): No VILLAGE, no RULES");
        LentTools y = new LentTools();
        for (int what = 0; what <= 11; what++) is("count " + what, y.count(what), 0);
    }

    private static void villageTold() {
        DUE.sentence("village: the TAPE, which is empty then; nothing to be UNDONE; x stays");
        LentTools x = Due.of("village 2 1;tool 0 0 0;trust 0 1");
        Due.rule(x, "lend 1");
        x.lend(0, 1);
        x.day();
        x.seed(MAX_VALUE);
        is("two acts", x.count(9), 2);
        is("in place of the one", Due.village(x, "village 3 20"), 0);
        is("empty", x.count(11), 0);
        is("nothing to be undone", x.count(9), 0);
        is("undo", x.undo(), -1);
        is("x stays", x.count(10), MAX_VALUE);
        is("the rule stays", x.count(4), 1);
        is("houses", x.count(0), 3);
        is("late", x.count(1), 20);
        is("tools", x.count(2), 0);
    }

    private static void villageRefused() {
        DUE.sentence("village: -2 - its FAULT, and all stays");
        for (String text : new String[] {"", "village", "village 3", "village 7 1", "village 3 4;tool 2 4 9;tool 3 0 0",
            "village 3 4;trust 0 1;trust 1 1", "village 3 4;village 3 4", "village 3 4;thanks 0 1 5;"}) {
            LentTools x = Scenes.ordinary();
            LentTools twin = Scenes.ordinary();
            DUE.is("a fault of '" + text + "'", Due.village(x, text) < -2, true);
            is("the tape is empty behind it", x.count(11), 0);
            twin.end(0);
            DUE.is("behind '" + text + "'", Probe.difference(x, twin), "");
        }
        LentTools x = new LentTools();
        Due.village(x, "village 3 4;tool 0 0 0;work 0 0 1 1;x");
        for (int what = 0; what <= 11; what++) is("without a village, count " + what, x.count(what), 0);
    }

    // ---- rules

    private static void ruleTold() {
        DUE.sentence("RULES 0 to 5");
        LentTools x = new LentTools();
        for (int i = 0; i < 6; i++) {
            is("rule " + i, Due.rule(x, "lend " + i), i);
            is("rules", x.count(4), i + 1);
            is("the tape is empty then", x.count(11), 0);
        }
        DUE.sentence("rule: NONE, and nothing happens: there are 6");
        for (String text : new String[] {"lend 1", "lend", "", padded("lend 1", 400)}) {
            LentTools y = Scenes.sixRules();
            LentTools twin = Scenes.sixRules();
            Due.tell(twin, text);
            is("a seventh '" + text + "'", Due.rule(y, text), -1);
            is("its tape stays", y.count(11), text.length());
            DUE.is("behind '" + text + "'", Probe.difference(y, twin), "");
        }
    }

    private static void ruleRefused() {
        DUE.sentence("rule: -2 - its FAULT");
        for (String text : new String[] {"", "lend", "lend 1;lend", "lend 1 if 1", "lend 123456", "lend 1 if [1=1"}) {
            LentTools x = Scenes.ordinary();
            LentTools twin = Scenes.ordinary();
            DUE.is("a fault of '" + text + "'", Due.rule(x, text) < -2, true);
            is("no rule", x.count(4), 1);
            twin.end(0);
            DUE.is("behind '" + text + "'", Probe.difference(x, twin), "");
        }
        LentTools x = new LentTools();
        Due.rule(x, "lend 1;");
        is("the next is rule 0", Due.rule(x, "lend 1"), 0);
    }

    private static void ruleClauses() {
        DUE.sentence("12 CLAUSES at most");
        String twelve = "lend 1" + ";lend 1".repeat(11);
        rule(twelve);
        rule("lend 1");
        badRule(twelve + ";^lend 1", 4);
        badRule(twelve + " ;  ^lend", 4);
        badRule(twelve + ";^", 0);
        badRule(twelve + ";^tool", 0);
        // The twelfth is read as the others are.
        LentTools x = Due.of("village 2 1;tool 0 0 0;trust 0 1");
        Due.rule(x, "lend 0 if day=9" + ";lend 0 if day=9".repeat(10) + ";lend 1");
        x.run(0, 1);
        is("by the twelfth", x.tool(0, 3), 1);

        DUE.sentence("rules: texts likewise, of at most 400 bytes");
        rule(padded("lend 1", 400));
        badRule(padded("lend 1", 399) + "^x", 0);
        badRule(padded("lend 1 +", 400) + "^", 0);
        badRule(padded("", 400) + "^", 0);
    }

    private static void ruleGrammar() {
        DUE.sentence("a byte or WORD that can't stand there, or the end (behind the last byte)");
        badRule("^", 0);
        badRule("  ^", 0);
        badRule("^lent 1", 0);
        badRule("^1", 0);
        badRule("lend^", 0);
        badRule("lend  ^", 0);
        badRule("lend ^if 1=1", 0);
        badRule("lend ^+1", 0);
        badRule("lend ^[1]", 0);
        badRule("lend ^not 1", 0);
        badRule("lend 1 +^", 0);
        badRule("lend 1 + ^* 2", 0);
        badRule("lend 1 ^2", 0);
        badRule("lend 1 ^day", 0);
        badRule("lend 1 ^lend 2", 0);
        badRule("lend 1 ^= 1", 0);
        badRule("lend 1 ^and 1=1", 0);
        badRule("lend 1 ^]", 0);
        badRule("lend 1;^", 0);
        badRule("lend 1;^;", 0);
        badRule("lend 1 if^", 0);
        badRule("lend 1 if ^;", 0);
        badRule("lend 1 if ^if", 0);
        badRule("lend 1 if ^and 1=1", 0);
        badRule("lend 1 if 1^", 0);
        badRule("lend 1 if 1 ^and 1", 0);
        badRule("lend 1 if 1 =^", 0);
        badRule("lend 1 if 1 = ^[1]", 0);
        badRule("lend 1 if 1 = 1 ^= 1", 0);
        badRule("lend 1 if 1 = 1 ^1", 0);
        badRule("lend 1 if 1 = 1 and^", 0);
        badRule("lend 1 if 1 = 1 or ^or", 0);
        badRule("lend 1 if 1 = 1 ^not 1 = 1", 0);
        badRule("lend 1 if 1 = 1^]", 0);
        badRule("lend 1 if 1 = 1 ^[", 0);
        badRule("lend 1 if not^", 0);
        badRule("lend 1 if not ^]", 0);
        badRule("lend 1 if [^", 0);
        badRule("lend 1 if [^]", 0);
        badRule("lend 1 if [1=1^", 0);
        badRule("lend 1 if [1=1^;", 0);
        badRule("lend 1 if [1=1] ^+ 1", 0);
        badRule("lend 1 if [1=1] ^= 1", 0);
        badRule("lend 1 if [1=1]^]", 0);
        badRule("lend 1 if [1=1] ^1", 0);
        badRule("lend 1 if [1=1] ^[1=1]", 0);
        badRule("lend 1 if [1 + 2^] > 2", 0);
        badRule("lend 1 if 1 ^! 1", 0);
        rule("lend 1 if [[1=1]or[not[1=1]]]and not not 1=1");
        rule("lend 1 if 1<1 or 1<=1 or 1=1 or 1>=1 or 1>1");
        badRule("lend 1 if 1 <^> 1", 0);
        badRule("lend 1 if 1 =^< 1", 0);
        badRule("lend 1 if 1 =^> 1", 0);
        badRule("lend 1 if 1 =^= 1", 0);
        badRule("lend 1 if 1 <=^= 1", 0);
    }

    private static void digits() {
        DUE.sentence("NUMBER (1 to 5 digits, as far as digits go on)");
        village("village 00002 00001", 0);
        badVillage("village ^000002 1", 1);
        badVillage("village 2 ^000001", 1);
        badVillage("village ^21", 1);
        badVillage("village 2^", 0);
        badVillage("village 2 ^x", 0);
        badVillage("village ^-2 1", 0);
        rule("lend 99999");
        rule("lend 00000");
        badRule("lend ^100000", 1);
        badRule("lend ^000001", 1);
        badRule("lend ^12345678901234567890", 1);
        badRule("lend 1 if day = ^000000", 1);
        goes("lend 1 if 99999-99998=1", 1);
        goes("lend 1 if 00010=10", 1);
    }

    private static void letters() {
        DUE.sentence("WORDS (small letters, as far as these go on)");
        village("village2 1;tool0 0 0", 1);
        badVillage("^villag 2 1", 0);
        badVillage("^villagee 2 1", 0);
        badVillage("^vil lage 2 1", 0);
        badVillage("^Village 2 1", 0);
        badVillage("^lend 1", 0);
        badVillage("village 2 1;^tools 0 0 0", 0);
        badVillage("village 2 1;^quarrel 0 1", 0);
        rule("lend1if1=1and not1=2or day=3");
        rule("lend tool+kind+owner+holder+to+lent+sharp+out+day+need+pay+owes+trusts");
        badRule("lend ^days", 0);
        badRule("lend ^da", 0);
        badRule("lend ^daya", 0);
        badRule("lend ^dayz", 0);
        badRule("lend ^Day", 0);
        badRule("lend day^D", 0);
        badRule("lend ^trust", 0);
        badRule("lend ^work", 0);
        badRule("lend ^edge", 0);
        badRule("lend 1 ^iff 1=1", 0);
        badRule("lend 1 if 1=1 ^andnot 1=1", 0);
        badRule("lend 1 if ^note=1", 0);
        badRule("lend 1 ^If 1=1", 0);
    }

    private static void blanks() {
        DUE.sentence("Blanks (32) stand between as one likes");
        village("   village   2   1   ;   tool   0   0   0   ", 1);
        village("village2 1;trust0 1;work0 0 1 1;thanks0 1 1;tool0 0 0", 1);
        rule("  lend  1  +  2  *  3  if  not  [  1  <=  2  and  day  >=  0  ]  or  1  =  1  ;  lend  1  ");
        badRule("lend 1 if 1 < ^= 1", 0);
        badRule("lend 1 if 1 > ^= 1", 0);
        badRule("lend 1 ^0", 0);
        badRule("lend ^da y", 0);
        for (char other : new char[] {0, 9, 10, 13, 31, 33, 127, 160, 255}) {
            badVillage("village^" + other + "2 1", 0);
            badVillage("village 2 1^" + other, 0);
            badVillage("^" + other + "village 2 1", 0);
            badRule("lend^" + other + "1", 0);
            badRule("lend 1^" + other, 0);
            badRule("lend 1 if day^" + other + "=1", 0);
        }
    }

    private static void deep() {
        DUE.sentence("[ and not lie within one another 10 deep at most (at the sign that opens, or the word not)");
        String ten = "[".repeat(10);
        rule("lend 1 if " + ten + "1=1" + "]".repeat(10));
        badRule("lend 1 if " + ten + "^[1=1" + "]".repeat(11), 2);
        badRule("lend 1 if " + ten + " ^[", 2);
        badRule("lend 1 if " + ten + "^not 1=1" + "]".repeat(10), 2);
        badRule("lend 1 if " + ten + "1=1 and ^[", 2);
        badRule("lend 1 if " + ten + "1=1 or ^not", 2);
        String nots = "not ".repeat(10);
        rule("lend 1 if " + nots + "1=1");
        badRule("lend 1 if " + nots + "^not 1=1", 2);
        badRule("lend 1 if " + nots + "^[1=1]", 2);
        // Behind its fact a not is closed, behind its sign a bracket: the next may go as deep.
        rule("lend 1 if " + nots + "1=1 and " + nots + "1=1 or " + nots + "1=1");
        rule("lend 1 if " + ten + "1=1" + "]".repeat(10) + " and " + ten + "1=1" + "]".repeat(10));
        rule("lend 1 if " + "not [".repeat(5) + "1=1" + "]".repeat(5) + "or" + "[not ".repeat(5) + "1=1" + "]".repeat(5));
        rule("lend 1 if " + nots + "1=1;lend 1 if " + ten + "1=1" + "]".repeat(10) + ";lend 1 if " + nots + "1=1");
        rule("lend 1 if [not 1=1 and " + "[".repeat(9) + "1=1" + "]".repeat(10));
        badRule("lend 1 if [not 1=1 and not " + "[".repeat(8) + "^[1=1" + "]".repeat(10), 2);
        rule("lend 1 if [not [1=1] and " + "not ".repeat(9) + "1=1]");
        badRule("lend 1 if [not [1=1] and " + "not ".repeat(9) + "^[1=1]]", 2);
        // Ten deep it still holds what it should.
        goes("lend 1 if " + "not [".repeat(5) + "to=2" + "]".repeat(5), 1);
        goes("lend 1 if " + nots + "to=2", 2);
        goes("lend 1 if " + ten + "to=2" + "]".repeat(10), 2);
    }

    private static void sixty() {
        DUE.sentence("at most 60 VALUES (of SUMS) and FACTS made of a SIGN, together (at its first byte; of a FACT at its SIGN)");
        String sixty = "lend 1" + "+1".repeat(59);
        rule(sixty);
        badRule(sixty + "+ ^1", 3);
        badRule(sixty + "+^day", 3);
        badRule(sixty + ";lend ^1", 3);
        badRule(sixty + " if ^1=1", 3);
        badRule(sixty + " if not [^day", 3);
        // Each fact is three: a value, its sign, a value.
        String facts = " if 1=1" + " or 1=1".repeat(18);
        rule("lend 1+1+1" + facts);
        badRule("lend 1+1+1" + facts + " or ^1=1", 3);
        badRule("lend 1+1" + facts + " or 1 ^= 1", 3);
        badRule("lend 1+1" + facts + " or 1 ^<= 1", 3);
        badRule("lend 1" + facts + " or 1 > ^1", 3);
        badRule("lend 1" + facts + " or day >= ^day", 3);
        // Neither not nor a bracket is one of them.
        rule("lend 1+1+1" + facts.replace(" if 1=1", " if not[not 1=1]"));
        // They are counted over all clauses.
        String five = "lend 1" + "+1".repeat(11) + (";lend 1" + "+1".repeat(11)).repeat(4);
        rule(five);
        badRule(five + "*^1", 3);
        badRule(five + ";lend ^1", 3);
        // The sixtieth counts in the sum.
        goes("lend 0" + "+0".repeat(58) + "+to", 5);
    }

    private static void firstFault() {
        DUE.sentence("FAULTS, the first along the text, 1 + 8 * its place");
        is("place 0", Due.village(new LentTools(), "x"), -3);
        is("place 0 of a clause", Due.village(new LentTools(), "tool 0 0 0"), -7);
        is("place 1", Due.village(new LentTools(), " x"), -11);
        is("place 8 of a number", Due.village(new LentTools(), "village 7 x;y"), -68);
        is("place 400", Due.village(new LentTools(), padded("", 400)), -3203);
        is("place 0 of a rule", Due.rule(new LentTools(), "x"), -3);
        is("place 5 of a rule's number", Due.rule(new LentTools(), "lend 123456 +"), -44);
        badVillage("village ^7 0", 1);
        badVillage("village 2 ^0;tools", 1);
        badVillage("village 2 1^x;village 2 1", 0);
        badVillage("village 2 1;trust ^9 9", 1);
        badVillage("village 2 1;thanks ^2 2 10", 1);
        badVillage("village 2 1;tool 0 ^5 10;village", 1);
        badVillage("village 2 1;^village 7 x", 4);
        badRule("lend ^123456 if 1", 1);
        badRule("lend 1 if ^x;lend 123456", 0);
        badRule("lend 1 if " + "not ".repeat(10) + "^not [[[ x", 2);
        badRule("lend 1" + "+1".repeat(59) + "+^1 + x", 3);
    }

    private static void leastFault() {
        DUE.sentence("Of one place the least");
        String forty = "village 2 1" + ";trust0 1".repeat(39);
        badVillage(forty + ";^trusts 0 1", 0);
        badVillage(forty + ";^0", 0);
        badVillage("village 2 1" + ";tool 0 0 0".repeat(6) + ";^tools", 0);
        badVillage("village 2 1" + ";work 0 0 1 1".repeat(6) + ";^works", 0);
        badVillage("^tools 0 0 0", 0);
        badVillage("village 2 1;^villages 2 1", 0);
        badRule("lend 1" + ";lend 1".repeat(11) + ";^lends 1", 0);
        String sixty = "lend 1" + "+1".repeat(59);
        badRule(sixty + "+^days", 0);
        badRule(sixty + "+^", 0);
        badRule(sixty + "+^[", 0);
        badRule(sixty + "+^000001", 1);
        badRule(sixty + " ^= 1", 0);
        badRule("lend 1+1 if 1=1" + " or 1=1".repeat(18) + " or 1 ^! 1", 0);
        badRule("lend 1 if " + "[".repeat(10) + "1=1 ^[", 0);
        badRule("lend 1 if " + "[".repeat(10) + "1=1 ^not", 0);
        badRule("lend 1 if " + "[".repeat(10) + "1= ^[", 0);
    }

    private static void readAnew() {
        DUE.sentence("a RULE's bounds are those of its own text");
        String[] full = {"lend 1" + ";lend 1".repeat(11), "lend 1" + "+1".repeat(59),
            "lend 1 if " + "[".repeat(10) + "1=1" + "]".repeat(10), "lend 1 if " + "not ".repeat(10) + "1=1"};
        String[] faulty = {"lend 1" + ";lend 1".repeat(12), "lend 1" + "+1".repeat(60), "lend 1 if " + "[".repeat(10),
            "lend 1 if " + "not ".repeat(10), "lend 1 if [1=1;lend", "lend 1*1+"};
        for (String first : full) {
            for (String second : full) {
                LentTools x = new LentTools();
                is("the first", Due.rule(x, first), 0);
                is("the second", Due.rule(x, second), 1);
            }
        }
        for (String first : faulty) {
            for (String second : full) {
                LentTools x = Due.of("village 2 1;tool 0 0 0;trust 0 1");
                DUE.is("a fault", Due.rule(x, first) < -2, true);
                is("behind a fault", Due.rule(x, second), 0);
                x.run(0, 1);
                is("its sum", x.tool(0, 3), 1);
            }
        }
        DUE.sentence("a VILLAGE's bounds are those of its own text");
        String six = "village 2 1" + ";tool 0 0 0".repeat(6) + ";work 0 0 1 1".repeat(6);
        String forty = "village 2 1" + ";trust0 1".repeat(39);
        LentTools y = new LentTools();
        for (int i = 0; i < 3; i++) {
            is("six and six", Due.village(y, six), 6);
            is("a seventh", Due.village(y, six + ";tool 0 0 0"), Due.fault(six.length() + 1, 4));
            is("forty", Due.village(y, forty), 0);
            is("one more", Due.village(y, forty + ";trust 0 1"), Due.fault(forty.length() + 1, 4));
        }
        // What a faulty text told ahead of its fault is no part of the next.
        Due.village(y, "village 6 9;tool 0 0 0;work 0 0 1 1;trust 0 1;thanks 0 1 5;x");
        is("the next", Due.village(y, "village 2 1"), 0);
        is("works", y.count(3), 0);
        is("thanks", y.count(8), 0);
        is("trust", y.house(0, 1, 0), 0);
    }

    /** By the rule a tool of house 0 goes to the first of the houses 1 to 5 with the greatest sum. */
    private static void goes(String rule, int want) {
        LentTools x = Due.of("village 6 5;tool 0 0 0;trust 0 5;trust 0 4;trust 0 3;trust 0 2;trust 0 1");
        is("rule() of " + rule, Due.rule(x, rule), 0);
        x.run(0, 1);
        is(rule, x.tool(0, 3), want);
    }
}
