import static java.lang.Integer.MAX_VALUE;
import static java.lang.Integer.MIN_VALUE;

/** Each promise of the document by number, with answers worked out by hand from its words. */
public final class PromisesTest {
    private static final Due DUE = new Due();

    /** Four houses; 0, 1, 2 lend in a row to 3, which lends to 0, and 0 to 2 as well. */
    private static final String FOUR = "village 4 2;tool 0 0 3;tool 1 1 5;tool 2 0 1;trust 0 1;trust 1 2;trust 2 3;"
            + "trust 0 2;trust 3 0;work 2 0 5 10;work 3 0 4 8;work 0 1 6 5;thanks 1 2 2;thanks 2 1 1";
    private static final String NEED_FIRST = "lend need + sharp - 4 if need > 0;lend 1";

    public static void main(String[] args) {
        newObject();
        feedAndEnd();
        villageTexts();
        villageFaults();
        ruleTexts();
        ruleFaults();
        ruleLimits();
        ruleWords();
        ruleArithmetic();
        toolsWorksHouses();
        lendings();
        rust();
        worksDone();
        quarrels();
        ringsSettled();
        gifts();
        days();
        undoing();
        runs();
        chains();
        matches();
        worthOwnerBreaks();
        ringsAsked();
        cameBy();
        doneBy();
        safeHouses();
        draws();
        images();
        DUE.close();
    }

    private static LentTools of(String village) {
        LentTools x = new LentTools();
        Due.village(x, village);
        return x;
    }

    private static void is(String call, long got, long want) {
        DUE.is(call, got, want);
    }

    private static void newObject() {
        LentTools x = new LentTools();
        for (int what = 0; what <= 11; what++) is("new count " + what, x.count(what), 0);
        is("new count -1", x.count(-1), -1);
        is("new count 12", x.count(12), -1);
        is("new tool", x.tool(0, 0), -1);
        is("new work", x.work(0, 0), -2);
        is("new house", x.house(0, 1, 0), -1);
        is("new lend", x.lend(0, 1), -1);
        is("new giveBack", x.giveBack(0), -1);
        is("new does", x.does(0), -1);
        DUE.is("new quarrel", x.quarrel(0, 1), false);
        is("new ring", x.ring(), -1);
        is("new gift", x.gift(0, 1), -1);
        is("new day", x.day(), -1);
        is("new undo", x.undo(), -1);
        is("new rule", Due.rule(x, "lend 1"), 0);
        is("run without a village", x.run(0, 1), -1);
        is("done without a village", x.done(0), -1);
        is("new chain", x.chain(0, 0, true, 0), -3);
        is("new match", x.match(0), -3);
        is("new worth", x.worth(0), -1);
        is("new owner", x.owner(0, 0), -1);
        is("new breaks", x.breaks(0), -1);
        is("new rings", x.rings(0), -1);
        is("new debt", x.debt(0), -1000);
        is("new came", x.came(0, 0), -1);
        is("new safe", x.safe(0), -1);
        is("new harvests", x.harvests(1, 1, 0), -1);
        is("new back", x.back(0), -1);
        is("NONE", LentTools.NONE, -1);
    }

    private static void feedAndEnd() {
        LentTools x = new LentTools();
        for (int i = 1; i <= 20; i++) is("feed " + i, x.feed(1, 2, 3, 4, 5), 20 * i);
        is("feed 21", x.feed(1, 2, 3, 4, 5), -1);
        is("tape 400", x.count(11), 400);
        is("end 401", x.end(401), -1);
        is("end -1", x.end(-1), -1);
        is("end of the least", x.end(MIN_VALUE), -1);
        is("still 400", x.count(11), 400);
        is("end 400", x.end(400), 400);
        is("end 381", x.end(381), 381);
        is("feed at 381", x.feed(0, 0, 0, 0, 0), -1);
        is("still 381", x.count(11), 381);
        is("end 380", x.end(380), 380);
        is("feed at 380", x.feed(0, 0, 0, 0, 0), 400);
        is("end 0", x.end(0), 0);
        is("empty", x.count(11), 0);
        // The highest byte of each number comes first: "vill" "age " "2 7;" ...
        x.feed(0x76696c6c, 0x61676520, 0x3220373b, 0x746f6f6c, 0x20312034);
        x.feed(0x20390000, 0, 0, 0, 0);
        is("end 22", x.end(22), 22);
        is("village by hand", x.village(), 1);
        is("its late", x.count(1), 7);
        is("its edge", x.tool(0, 2), 9);
        is("a byte of the high bit", Due.village(x, "village 2 1" + (char) 0xb0), Due.fault(11, 0));
    }

    private static void villageTexts() {
        LentTools x = new LentTools();
        is("four", Due.village(x, FOUR), 3);
        is("tape is empty then", x.count(11), 0);
        is("houses", x.count(0), 4);
        is("late", x.count(1), 2);
        is("tools", x.count(2), 3);
        is("works", x.count(3), 3);
        is("thanks", x.count(8), 3);
        x.seed(77);
        x.lend(0, 1);
        x.day();
        x.image(1);
        is("a fault", Due.village(x, "village 2"), Due.fault(9, 0));
        is("behind a fault the village stays", x.tool(0, 3), 1);
        is("behind a fault the day stays", x.count(5), 1);
        is("behind a fault the acts stay", x.count(9), 2);
        is("behind a fault the tape is empty", x.count(11), 0);
        is("another", Due.village(x, " village6 20 ; tool0 4 9;trust 5 0;trust 5 0;thanks 1 2 9;thanks 1 2 3"), 1);
        is("its houses", x.count(0), 6);
        is("its day", x.count(5), 0);
        is("its acts", x.count(9), 0);
        is("x stays", x.count(10), 77);
        is("trust told twice", x.house(5, 0, 0), 1);
        is("not the other way", x.house(0, 5, 0), 0);
        is("the last thanks", x.house(1, 2, 1), 3);
        is("images stay", x.back(1), 1);
        is("as it was", x.count(0), 4);
        is("no works", Due.village(x, "village 00002 1"), 0);
        is("no trust", x.breaks(0), -2);
    }

    private static void villageFault(String text, int place, int code) {
        is("village() of '" + text + "'", Due.village(new LentTools(), text), Due.fault(place, code));
    }

    private static void villageFaults() {
        villageFault("", 0, 0);
        villageFault("   ", 3, 0);
        villageFault("village", 7, 0);
        villageFault("village 1 3", 8, 1);
        villageFault("village 7 3", 8, 1);
        villageFault("village 2 0", 10, 1);
        villageFault("village 2 21", 10, 1);
        villageFault("village 000002 1", 8, 1);
        villageFault("village 2 1 1", 12, 0);
        villageFault("village 2 1;", 12, 0);
        villageFault("village 2 1; ", 13, 0);
        villageFault("village 2 1;;", 12, 0);
        villageFault("villages 2 1", 0, 0);
        villageFault(" Village 2 1", 1, 0);
        villageFault("vill age 2 1", 0, 0);
        villageFault("village 2 1\0", 11, 0);
        villageFault(" tool 0 0 0", 1, 4);
        villageFault("village 2 1; village 2 1", 13, 4);
        villageFault("village 2 1;tool 2 0 0", 17, 1);
        villageFault("village 2 1;tool 0 5 0", 19, 1);
        villageFault("village 2 1;tool 0 0 10", 21, 1);
        villageFault("village 2 1;tool 0 0", 20, 0);
        villageFault("village 2 1;tool 0 -1", 19, 0);
        villageFault("village 2 1;trust 0 0", 20, 1);
        villageFault("village 2 1;trust 2 0", 18, 1);
        villageFault("village 2 1;trust 0 2", 20, 1);
        villageFault("village 2 1;work 0 0 0 1", 21, 1);
        villageFault("village 2 1;work 0 0 21 1", 21, 1);
        villageFault("village 2 1;work 0 0 1 0", 23, 1);
        villageFault("village 2 1;work 0 0 1 51", 23, 1);
        villageFault("village 2 1;thanks 0 0 1", 21, 1);
        villageFault("village 2 1;thanks 0 1 10", 23, 1);
        villageFault("village 2 1;gift 0 1", 12, 0);
        String six = "village 2 1" + ";tool 0 0 0".repeat(6);
        is("six tools", Due.village(new LentTools(), six), 6);
        villageFault(six + ";tool 9 9 9", six.length() + 1, 4);
        villageFault(six + ";tools", six.length() + 1, 0);
        String works = "village 2 1" + ";work 0 0 1 1".repeat(6);
        is("six works", Due.village(new LentTools(), works), 0);
        villageFault(works + ";work", works.length() + 1, 4);
        String forty = "village 2 1" + ";trust0 1".repeat(39);
        is("forty clauses", Due.village(new LentTools(), forty), 0);
        villageFault(forty + "; trust", forty.length() + 2, 4);
        villageFault(forty + "; rust", forty.length() + 2, 0);
        villageFault(forty + ";", forty.length() + 1, 0);
    }

    private static void ruleTexts() {
        LentTools x = new LentTools();
        is("rule 0", Due.rule(x, NEED_FIRST), 0);
        is("the tape is empty then", x.count(11), 0);
        is("rule 1", Due.rule(x, " lend1if not[day=1or day>=2and tool<kind];lend 99999 "), 1);
        is("a fault is no rule", Due.rule(x, "lend"), Due.fault(4, 0));
        is("two rules", x.count(4), 2);
        is("the tape is empty behind a fault", x.count(11), 0);
        for (int i = 2; i < 6; i++) is("rule " + i, Due.rule(x, "lend 1"), i);
        is("a seventh", Due.rule(x, "lend 1"), -1);
        is("its tape stays", x.count(11), 6);
        is("a seventh with a fault", Due.rule(x, "lend"), -1);
        is("six rules", x.count(4), 6);
        Due.village(x, FOUR);
        is("rules stay with a new village", x.count(4), 6);
    }

    private static void ruleFault(String text, int place, int code) {
        is("rule() of '" + text + "'", Due.rule(new LentTools(), text), Due.fault(place, code));
    }

    private static void ruleFaults() {
        ruleFault("", 0, 0);
        ruleFault("lend", 4, 0);
        ruleFault("lends 1", 0, 0);
        ruleFault("lend x", 5, 0);
        ruleFault("lend 1 if", 9, 0);
        ruleFault("lend 1;", 7, 0);
        ruleFault("lend 5 %", 8, 0);
        ruleFault("lend 1 if kind = 1]", 18, 0);
        ruleFault("lend 1 2", 7, 0);
        ruleFault("lend 1 1234567", 7, 0);
        ruleFault("lend 123456", 5, 1);
        ruleFault("lend 1+if day=1", 7, 0);
        ruleFault("lend [1]", 5, 0);
        ruleFault("lend -1", 5, 0);
        ruleFault("lend not", 5, 0);
        ruleFault("lend day day", 9, 0);
        ruleFault("lend sharper", 5, 0);
        ruleFault("lend 1 if day", 13, 0);
        ruleFault("lend 1 if day;", 13, 0);
        ruleFault("lend 1 if day => 1", 15, 0);
        ruleFault("lend 1 if day < = 1", 16, 0);
        ruleFault("lend 1 if day == 1", 15, 0);
        ruleFault("lend 1 if day = 1 = 1", 18, 0);
        ruleFault("lend 1 if day = 1 and", 21, 0);
        ruleFault("lend 1 if day = 1 or or", 21, 0);
        ruleFault("lend 1 if [day = 1", 18, 0);
        ruleFault("lend 1 if [day = 1;", 18, 0);
        ruleFault("lend 1 if [day = 1] + 1", 20, 0);
        ruleFault("lend 1 if [day] = 1", 14, 0);
        ruleFault("lend 1 if []", 11, 0);
        ruleFault("lend 1 if day = 1 if day = 1", 18, 0);
        ruleFault("lend 1 if not = 1", 14, 0);
        ruleFault("lend 1 if day = not day = 1", 16, 0);
        ruleFault("lend 1 lend 1", 7, 0);
    }

    private static void ruleLimits() {
        LentTools x = new LentTools();
        is("ten deep", Due.rule(x, "lend 1 if " + "[".repeat(10) + "day=1" + "]".repeat(10)), 0);
        ruleFault("lend 1 if " + "[".repeat(11) + "day=1" + "]".repeat(11), 20, 2);
        is("ten nots", Due.rule(x, "lend 1 if " + "not ".repeat(10) + "day=1 and not day=2"), 1);
        ruleFault("lend 1 if " + "not ".repeat(11) + "day=1", 50, 2);
        is("mixed ten deep", Due.rule(x, "lend 1 if " + "not [".repeat(5) + "day=1" + "]".repeat(5)
                + "or not[day=1 and " + "[not ".repeat(4) + "day=1" + "]".repeat(5)), 2);
        ruleFault("lend 1 if " + "not [".repeat(5) + "not day=1" + "]".repeat(5), 35, 2);
        ruleFault("lend 1 if [day=1] and " + "not [".repeat(5) + "[day=1]" + "]".repeat(5), 47, 2);
        is("sixty values", Due.rule(x, "lend 1" + "+1".repeat(59)), 3);
        ruleFault("lend 1" + "+1".repeat(59) + " + 1", 127, 3);
        ruleFault("lend 1" + "+1".repeat(59) + "+123456", 125, 1);
        ruleFault("lend 1" + "+1".repeat(59) + "+x", 125, 0);
        ruleFault("lend 1" + "+1".repeat(59) + ";lend day", 130, 3);
        is("58 values, a fact of two", Due.rule(x, "lend 1" + "+1".repeat(56) + " if 1=1"), 4);
        ruleFault("lend 1" + "+1".repeat(57) + " if 1=1", 126, 3);
        ruleFault("lend 1" + "+1".repeat(58) + " if 1 <= 1", 128, 3);
        is("twelve clauses", Due.rule(x, "lend 1" + ";lend 1".repeat(11)), 5);
        ruleFault("lend 1" + ";lend 1".repeat(11) + "; lend x", 85, 4);
        ruleFault("lend 1" + ";lend 1".repeat(11) + "; lent 1", 85, 0);
        ruleFault("lend 1" + ";lend 1".repeat(11) + ";", 84, 0);
    }

    /** Whether the tool 0 of a village goes to house 1 by a rule that lends there if the sum is as told. */
    private static void word(String sum, long want) {
        LentTools x = of("village 3 1;tool 0 2 7;tool 2 2 3;trust 0 1;trust 1 0;trust 2 1;work 1 2 5 11;work 1 2 9 3;"
                + "work 1 1 20 50;work 2 2 19 50;thanks 1 0 6;thanks 0 1 2;thanks 1 2 5");
        Due.rule(x, "lend 1 if " + sum + " = " + want);
        x.day();
        x.day();
        x.run(0, 1);
        is("the word in " + sum, x.tool(0, 3), 1);
    }

    private static void ruleWords() {
        word("tool", 0);
        word("kind", 2);
        word("owner", 0);
        word("holder", 0);
        word("to", 1);
        word("lent", 0);
        word("sharp", 8);
        word("out", 0);
        word("day", 2);
        word("need", 9);
        word("pay", 14);
        word("owes", 6);
        word("trusts", 1);
        LentTools x = of("village 4 1;tool 1 3 4;trust 1 2;trust 2 3;work 3 3 20 4;work 3 3 2 5;thanks 3 2 8");
        Due.rule(x, "lend 1 if tool=0 and kind=3 and owner=1 and holder=2 and to=3 and lent=1 and sharp=4 and out=3"
                + " and day=4 and need=20 and pay=9 and owes=8 and trusts=0");
        x.day();
        x.lend(0, 2);
        x.day();
        x.day();
        x.day();
        x.run(0, 1);
        is("all words", x.tool(0, 3), 3);
        is("the lesser work is done", x.count(7), 2);
        is("only one is left", x.work(1, 4), 4);
    }

    /** By the rule a tool of house 0 goes to the first of the houses 1 to 5 with the greatest sum. */
    private static void goes(String rule, int want) {
        LentTools x = of("village 6 5;tool 0 0 0;trust 0 5;trust 0 4;trust 0 3;trust 0 2;trust 0 1");
        is("rule() of " + rule, Due.rule(x, rule), 0);
        x.run(0, 1);
        is(rule, x.tool(0, 3), want);
    }

    private static void ruleArithmetic() {
        goes("lend 0", 0);
        goes("lend 1", 1);
        goes("lend 0-1", 0);
        goes("lend to", 5);
        goes("lend 5-to", 1);
        goes("lend 2+to*3-4", 5);
        goes("lend 10-to-to", 1);
        goes("lend 12/to/2", 1);
        goes("lend to%3", 2);
        goes("lend to%3*4%5", 1);
        goes("lend 7/0+to", 5);
        goes("lend 7%0+1", 1);
        goes("lend 1-7/0-to%0", 1);
        goes("lend 1 if 0-7%4=0-3", 1);
        goes("lend to if to<3;lend 2 if to=4;lend 1", 2);
        goes("lend 0 if to<3;lend 2 if to=4;lend 1", 4);
        goes("lend 5 if to>5", 0);
        goes("lend 1 if to>=3", 3);
        goes("lend 1 if to>3", 4);
        goes("lend to if to<=3", 3);
        goes("lend to if to<3", 2);
        goes("lend 1 if not to<3", 3);
        goes("lend 1 if not not to=3", 3);
        goes("lend 1 if to=2 or to=3 and to=4", 2);
        goes("lend 1 if [to=2 or to=3] and to=3", 3);
        goes("lend 1 if not to=1 and to<3", 2);
        goes("lend 1 if not [to=1 or to=2] and not [not to=5]", 5);
        goes("lend 1 if to=1 and to=2 or to=4 and 1=1", 4);
        // All goes round in 64 bits: 2 ^ 63 is the least number, 2 ^ 64 is 0.
        String least = "65536*65536*65536*32768";
        goes("lend " + least, 0);
        goes("lend " + least + "-1", 1);
        goes("lend 65536*65536*65536*65536+to", 5);
        // Towards 0: -1 / 2 is 0, its rest -1.
        String minusOne = least + "/65536/65536/65536/32768";
        goes("lend to if " + minusOne + "+1=0", 5);
        goes("lend to if " + minusOne + "/2=0", 5);
        goes("lend to if " + minusOne + "%2=0-1", 5);
        goes("lend to if " + least + "%10=0-8", 5);
    }

    private static void toolsWorksHouses() {
        LentTools x = of(FOUR);
        int[][] tools = {{0, 0, 3, 0, 0, 0, 0, 0}, {1, 1, 5, 1, 0, 0, 0, 0}, {2, 0, 1, 2, 0, 0, 0, 0}};
        int[][] works = {{2, 0, 5, 10, -1, 0}, {3, 0, 4, 8, -1, 0}, {0, 1, 6, 5, -1, 0}};
        for (int i = 0; i < 3; i++) {
            for (int what = 0; what < 8; what++) is("tool " + i + " " + what, x.tool(i, what), tools[i][what]);
            for (int what = 0; what < 6; what++) is("work " + i + " " + what, x.work(i, what), works[i][what]);
        }
        for (int wrong : new int[] {-1, 3, 6, MAX_VALUE, MIN_VALUE}) {
            is("tool " + wrong, x.tool(wrong, 0), -1);
            is("work " + wrong, x.work(wrong, 0), -2);
        }
        is("tool what -1", x.tool(0, -1), -1);
        is("tool what 8", x.tool(0, 8), -1);
        is("work what -1", x.work(0, -1), -2);
        is("work what 6", x.work(0, 6), -2);
        is("trusts", x.house(0, 1, 0), 1);
        is("trusts not", x.house(1, 0, 0), 0);
        is("owes", x.house(1, 2, 1), 2);
        is("owes back", x.house(2, 1, 1), 1);
        is("owes none", x.house(0, 1, 1), 0);
        is("alike", x.house(1, 1, 0), -1);
        is("house -1", x.house(-1, 1, 0), -1);
        is("house 4", x.house(0, 4, 1), -1);
        is("house what 2", x.house(0, 1, 2), -1);
        is("house what -1", x.house(0, 1, -1), -1);
    }

    private static void lendings() {
        LentTools x = of(FOUR);
        is("not trusted", x.lend(0, 3), -1);
        is("to itself", x.lend(0, 0), -1);
        is("no tool", x.lend(3, 1), -1);
        is("no house", x.lend(0, 4), -1);
        is("house below", x.lend(0, MIN_VALUE), -1);
        is("no act", x.count(9), 0);
        is("lend", x.lend(0, 1), 4);
        is("thanks of it", x.house(1, 0, 1), 1);
        is("lend on", x.lend(0, 2), 5);
        is("thanks of it, too", x.house(2, 1, 1), 2);
        is("none to the owner", x.house(2, 0, 1), 0);
        is("lend on again", x.lend(0, 3), 6);
        is("not to the owner", x.lend(0, 0), -1);
        is("holder", x.tool(0, 3), 3);
        is("lent", x.tool(0, 4), 3);
        is("out", x.tool(0, 5), 0);
        is("giveBack", x.giveBack(0), 0);
        is("at home", x.tool(0, 3), 0);
        is("lent none", x.tool(0, 4), 0);
        is("blunt", x.tool(0, 6), 0);
        is("giveBack at home", x.giveBack(0), -1);
        is("giveBack none", x.giveBack(-1), -1);
        is("thanks stay", x.count(8), 6);
        LentTools y = of("village 3 1;tool 0 0 9;trust 0 1;trust 1 2;trust 2 1;thanks 2 1 9");
        y.lend(0, 1);
        for (int i = 0; i < 89; i++) {
            y.lend(0, 2);
            y.lend(0, 1);
        }
        is("98 thanks", y.house(2, 1, 1), 98);
        y.lend(0, 2);
        is("99 thanks", y.house(2, 1, 1), 99);
        y.lend(0, 1);
        y.lend(0, 2);
        is("99 at most", y.house(2, 1, 1), 99);
        is("to where it was already, sharper still", y.tool(0, 6), 9 + 182);
    }

    private static void rust() {
        LentTools x = of("village 3 2;tool 0 0 1;trust 0 1;trust 1 2;work 1 0 2 7");
        is("lend", x.lend(0, 1), 2);
        is("day 1", x.day(), 0);
        is("day 2", x.day(), 0);
        is("not late", x.tool(0, 7), 0);
        is("still sharp", x.work(0, 5), 1);
        is("day 3", x.day(), 1);
        is("rust", x.tool(0, 7), 1);
        is("sharp", x.tool(0, 6), 1);
        is("too blunt", x.work(0, 5), 0);
        is("lend on", x.lend(0, 2), 2);
        x.day();
        x.day();
        is("0 at least", x.tool(0, 6), 0);
        x.day();
        is("0 at least, further", x.tool(0, 6), 0);
        is("rust 4", x.tool(0, 7), 4);
        is("out 6", x.tool(0, 5), 6);
        x.giveBack(0);
        is("no rust at home", x.tool(0, 7), 0);
        is("none late", x.day(), 0);
        is("out 0", x.tool(0, 5), 0);
    }

    private static void worksDone() {
        LentTools x = of(FOUR);
        is("not yet", x.does(0), -1);
        x.lend(0, 2);
        is("sharp 4 for 5", x.does(0), -1);
        x.lend(0, 3);
        x.day();
        is("could", x.work(1, 5), 1);
        is("does", x.does(1), 8);
        is("done on", x.work(1, 4), 1);
        is("could no more", x.work(1, 5), 0);
        is("not twice", x.does(1), -1);
        is("earned", x.count(6), 8);
        is("bits", x.count(7), 2);
        is("no work", x.does(3), -1);
        is("work below", x.does(-1), -1);
        x.lend(1, 2);
        x.lend(1, 3);
        is("of another kind", x.does(1), -1);
        x.lend(1, 0);
        is("sharp enough", x.does(2), 5);
        is("earned both", x.count(6), 13);
        is("bits of both", x.count(7), 6);
        LentTools home = of("village 2 1;tool 0 0 9;work 0 0 1 1");
        is("blunt in its owner's hand", home.does(0), -1);
    }

    private static void quarrels() {
        LentTools x = of(FOUR);
        DUE.is("none trusts", x.quarrel(1, 3), false);
        DUE.is("alike", x.quarrel(1, 1), false);
        DUE.is("no house", x.quarrel(0, 4), false);
        DUE.is("house below", x.quarrel(-1, 0), false);
        is("no act", x.count(9), 0);
        DUE.is("the other way round", x.quarrel(1, 0), true);
        is("no trust", x.house(0, 1, 0), 0);
        is("an act", x.count(9), 1);
        DUE.is("once", x.quarrel(0, 1), false);
        LentTools y = of("village 2 1;trust 0 1;trust 1 0");
        DUE.is("both", y.quarrel(0, 1), true);
        is("one", y.house(0, 1, 0), 0);
        is("other", y.house(1, 0, 0), 0);
    }

    private static void ringsSettled() {
        LentTools x = of(FOUR);
        is("a ring", x.ring(), 2);
        is("one less", x.house(1, 2, 1), 1);
        is("one less back", x.house(2, 1, 1), 0);
        is("no more", x.ring(), -1);
        is("one act", x.count(9), 1);
        LentTools y = of("village 6 1;thanks 5 0 1;thanks 0 5 1;thanks 1 2 1;thanks 2 1 1;thanks 0 3 1;thanks 3 4 1;"
                + "thanks 4 0 1");
        is("of two the first", y.ring(), 2);
        is("0 and 5", y.house(5, 0, 1), 0);
        is("1 and 2 next", y.ring(), 2);
        is("then three", y.ring(), 3);
        is("none", y.ring(), -1);
        is("all gone", y.count(8), 0);
    }

    private static void gifts() {
        LentTools x = of(FOUR);
        x.lend(0, 1);
        x.day();
        is("no tool", x.gift(3, 0), -1);
        is("no house", x.gift(0, 4), -1);
        is("its own", x.gift(0, 0), -1);
        is("gift to its holder", x.gift(0, 1), 0);
        is("owner", x.tool(0, 0), 1);
        is("holder", x.tool(0, 3), 1);
        is("lent", x.tool(0, 4), 0);
        is("out", x.tool(0, 5), 0);
        is("blunt", x.tool(0, 6), 0);
        is("gift on", x.gift(0, 3), 1);
        is("now from there", x.lend(0, 0), 4);
    }

    private static void days() {
        LentTools x = of("village 2 1;tool 0 0 1;tool 1 0 1;tool 0 0 1;trust 0 1;trust 1 0");
        x.lend(0, 1);
        x.lend(1, 0);
        is("none late", x.day(), 0);
        x.giveBack(1);
        is("one late", x.day(), 1);
        is("day", x.count(5), 2);
        Due.rule(x, "lend 0");
        for (int i = 0; i < 16; i++) x.run(0, 60);
        is("962", x.count(5), 962);
        is("above 999", x.run(0, 38), -1);
        is("998", x.run(0, 36), 0);
        x.image(0);
        is("to 999", x.day(), 1);
        is("no day more", x.day(), -1);
        is("999", x.count(5), 999);
        is("one act", x.count(9), 1);
        is("not by a rule", x.run(0, 1), -1);
        x.back(0);
        is("by a rule to 999", x.run(0, 1), 0);
    }

    private static void undoing() {
        LentTools x = of(FOUR);
        is("none", x.undo(), -1);
        x.lend(0, 1);
        x.seed(5);
        x.lend(0, 2);
        is("does", x.does(0), 10);
        x.quarrel(1, 2);
        is("ring", x.ring(), 2);
        x.day();
        x.gift(0, 3);
        x.giveBack(1);
        is("seven acts", x.count(9), 7);
        is("gift", x.undo(), 6);
        is("owner", x.tool(0, 0), 0);
        is("holder", x.tool(0, 3), 2);
        is("out", x.tool(0, 5), 1);
        is("day", x.undo(), 5);
        is("day 0", x.count(5), 0);
        is("out 0", x.tool(0, 5), 0);
        is("ring", x.undo(), 4);
        is("thanks", x.count(8), 5);
        is("quarrel", x.undo(), 3);
        is("trusts", x.house(1, 2, 0), 1);
        is("work", x.undo(), 2);
        is("not done", x.work(0, 4), -1);
        is("not earned", x.count(6), 0);
        is("lend", x.undo(), 1);
        is("thanks as they were", x.house(2, 1, 1), 1);
        is("the first lend", x.undo(), 0);
        is("at home", x.tool(0, 3), 0);
        is("x is no act", x.count(10), 5);
        is("none more", x.undo(), -1);
        for (int i = 0; i < 25; i++) x.day();
        is("20 at most", x.count(9), 20);
        for (int i = 19; i >= 0; i--) is("undo " + i, x.undo(), i);
        is("day 5", x.count(5), 5);
        is("no 21st", x.undo(), -1);
        x.day();
        is("again", x.undo(), 0);
        is("day 5 again", x.count(5), 5);
        x.lend(0, 1);
        x.giveBack(0);
        x.undo();
        is("giveBack undone", x.tool(0, 4), 1);
    }

    private static void runs() {
        LentTools x = of(FOUR);
        Due.rule(x, NEED_FIRST);
        is("rule 1", x.run(1, 1), -1);
        is("rule -1", x.run(-1, 1), -1);
        is("no days", x.run(0, 0), -1);
        is("61 days", x.run(0, 61), -1);
        is("days below", x.run(0, MIN_VALUE), -1);
        x.day();
        is("an act", x.count(9), 1);
        // Tool 0: to 1 without need: 1; to 2: 5 + 4 - 4 = 5. Tool 1: to 2: 1. Tool 2: to 3: 4 + 2 - 4.
        is("one day", x.run(0, 1), 0);
        is("nothing can be undone", x.count(9), 0);
        is("tool 0", x.tool(0, 3), 2);
        is("tool 1", x.tool(1, 3), 2);
        is("tool 2", x.tool(2, 3), 3);
        is("out", x.tool(0, 5), 1);
        is("day", x.count(5), 2);
        // Tool 0 to 3: sharp 5 for 4; tool 1 to 3: 1; tool 2 to 0: 1.
        is("another", x.run(0, 1), 8);
        is("done on", x.work(1, 4), 2);
        // Tool 0 can't go home; tool 1 to 0: sharp 8 for 6; tool 2 to 1.
        is("and another", x.run(0, 1), 5);
        is("thanks", x.house(2, 0, 1), 1);
        is("sixty", x.run(0, 60), 0);
        is("day 64", x.count(5), 64);
        is("out 63", x.tool(0, 5), 63);
    }

    private static void chains() {
        LentTools x = of(FOUR);
        int[][] longest = {{0, 0, -2, -2, -2}, {1, 4, 1, -2, -2}, {2, 5, 1, 2, -2}, {3, 6, 1, 2, 3}};
        int[][] fewest = {{0, 0, -2, -2, -2}, {1, 4, 1, -2, -2}, {1, 4, 2, -2, -2}, {2, 5, 2, 3, -2}};
        for (int h = 0; h < 4; h++) {
            for (int what = 0; what < 5; what++) {
                is("longest to " + h + " " + what, x.chain(0, h, true, what), longest[h][what]);
                is("fewest to " + h + " " + what, x.chain(0, h, false, what), fewest[h][what]);
            }
        }
        x.lend(0, 2);
        is("to its holder", x.chain(0, 2, true, 0), 0);
        is("to its holder sharp", x.chain(0, 2, true, 1), 4);
        is("to its holder no house", x.chain(0, 2, true, 2), -2);
        is("to its owner", x.chain(0, 0, true, 0), -2);
        is("not by its owner", x.chain(0, 1, true, 0), -2);
        is("on to 3", x.chain(0, 3, false, 1), 5);
        is("no tool", x.chain(3, 0, true, 0), -3);
        is("no house", x.chain(0, 4, true, 0), -3);
        is("what -1", x.chain(0, 0, true, -1), -3);
        is("what 7", x.chain(0, 0, true, 7), -3);
        LentTools y = of("village 6 1;tool 3 0 0;trust 3 0;trust 3 1;trust 3 5;trust 0 1;trust 1 0;trust 0 2;trust 1 2;"
                + "trust 2 5;trust 5 2;trust 2 4;trust 5 4;trust 0 5;trust 1 5");
        int[] row = {5, 5, 0, 1, 2, 5, 4};
        for (int what = 0; what < 7; what++) is("five houses " + what, y.chain(0, 4, true, what), row[what]);
        is("two by the fewest", y.chain(0, 4, false, 0), 2);
        is("first of these", y.chain(0, 4, false, 2), 5);
        is("of several the first", y.chain(0, 2, false, 2), 0);
    }

    private static void matches() {
        LentTools x = of(FOUR);
        int[] due = {15, 0, -1, 1, -2, -2, -2};
        for (int what = 0; what < 7; what++) is("match " + what, x.match(what), due[what]);
        is("what -1", x.match(-1), -3);
        is("what 7", x.match(7), -3);
        x.lend(0, 2);
        x.lend(0, 3);
        is("8 for 3", x.match(2), 0);
        is("none for 2", x.match(1), -1);
        x.does(1);
        is("done", x.match(2), -1);
        is("less", x.match(0), 5);
        // Two tools for two works of the same pay, and one of them alone for both: none ahead of tool 0.
        LentTools y = of("village 3 9;tool 0 0 9;tool 0 0 9;trust 0 1;trust 0 2;work 1 0 5 7;work 2 0 5 7;work 1 0 5 7");
        is("pay", y.match(0), 14);
        is("none first", y.match(1), -1);
        is("tool 0", y.match(2), 0);
        is("tool 1", y.match(3), 1);
        LentTools z = of("village 2 9;tool 0 0 0;trust 0 1;work 1 0 1 7;work 1 0 2 9");
        is("sharp enough, just", z.match(1), 0);
        is("not sharp enough", z.match(2), -1);
        is("no works", of("village 2 1").match(0), 0);
        is("no such work", of("village 2 1").match(1), -2);
    }

    private static void worthOwnerBreaks() {
        LentTools x = of(FOUR);
        is("worth 0", x.worth(0), 10);
        is("worth 1", x.worth(1), 5);
        is("worth 2", x.worth(2), 0);
        is("worth 3", x.worth(3), -1);
        is("worth -1", x.worth(-1), -1);
        is("owner of 0", x.owner(0, 0), 0);
        is("how much", x.owner(0, 1), 15);
        is("owner of 2", x.owner(2, 0), 0);
        is("how much then", x.owner(2, 1), 23);
        is("owner what 2", x.owner(2, 2), -1);
        is("owner what -1", x.owner(2, -1), -1);
        is("owner of none", x.owner(3, 0), -1);
        is("lesser", x.breaks(0), 1);
        is("greater", x.breaks(1), 2);
        is("how much less", x.breaks(2), 7);
        is("breaks 3", x.breaks(3), -1);
        is("breaks -1", x.breaks(-1), -1);
        is("nothing has changed", x.count(9) + x.house(1, 2, 0), 1);
        // By a gift the tool would have to start anew: its own owner means as it is now.
        LentTools y = of("village 3 1;tool 0 0 0;trust 0 1;trust 2 1;work 1 0 1 3");
        y.lend(0, 1);
        is("its own of several", y.owner(0, 0), 0);
        y.day();
        y.day();
        is("rusted, the least of others", y.owner(0, 0), 2);
        is("earns", y.owner(0, 1), 3);
        is("nothing to lose", of("village 3 1;trust 2 1").breaks(2), 0);
        is("the first", of("village 3 1;trust 2 1;trust 2 0").breaks(0), 0);
        is("the first, greater", of("village 3 1;trust 2 1;trust 2 0").breaks(1), 2);
        LentTools z = of("village 3 1");
        for (int what = 0; what < 3; what++) is("nobody trusts " + what, z.breaks(what), -2);
    }

    private static void ringsAsked() {
        LentTools x = of(FOUR);
        int[] due = {2, 2, 1, 2, -2, -2, -2, -2};
        for (int what = 0; what < 8; what++) is("rings " + what, x.rings(what), due[what]);
        is("rings 8", x.rings(8), -1);
        is("rings -1", x.rings(-1), -1);
        is("debt 0", x.debt(0), 0);
        is("debt 1", x.debt(1), 1);
        is("debt 2", x.debt(2), -1);
        is("debt 4", x.debt(4), -1000);
        is("debt -1", x.debt(-1), -1000);
        LentTools y = of("village 6 1;thanks 0 2 1;thanks 2 4 1;thanks 4 1 1;thanks 1 3 1;thanks 3 5 1;thanks 5 0 1");
        int[] all = {6, 6, 0, 2, 4, 1, 3, 5};
        for (int what = 0; what < 8; what++) is("a ring of six " + what, y.rings(what), all[what]);
        LentTools z = of("village 5 1;thanks 0 1 1;thanks 1 2 1;thanks 2 3 1;thanks 3 1 1;thanks 3 4 9");
        int[] three = {3, 3, 1, 2, 3, -2, -2, -2};
        for (int what = 0; what < 8; what++) is("a ring of three " + what, z.rings(what), three[what]);
        is("no ring", of("village 2 1;thanks 0 1 3").rings(1), 0);
        is("no house in one", of("village 2 1;thanks 0 1 3").rings(0), 0);
    }

    private static void cameBy() {
        LentTools x = of("village 5 1;tool 0 0 1;trust 0 1;trust 0 2;trust 1 3;trust 2 3;trust 1 2;trust 2 1;trust 3 1;"
                + "trust 3 4");
        is("at home: one row", x.came(0, 0), 1);
        is("at home: nobody", x.came(0, 1), 0);
        is("at home: none", x.came(0, 2), -2);
        is("tool 1", x.came(1, 0), -1);
        is("what 3", x.came(0, 3), -1);
        is("what -1", x.came(0, -1), -1);
        x.lend(0, 2);
        is("one loan", x.came(0, 0), 1);
        is("by its owner", x.came(0, 1), 1);
        is("by its owner first", x.came(0, 2), 0);
        x.lend(0, 3);
        is("two rows", x.came(0, 0), 2);
        is("1 or 2", x.came(0, 1), 6);
        is("1 by the first", x.came(0, 2), 1);
        x.quarrel(0, 1);
        is("as it is now", x.came(0, 0), 1);
        is("by 2", x.came(0, 1), 4);
        is("by 2 first", x.came(0, 2), 2);
        x.quarrel(3, 2);
        is("by none", x.came(0, 0), 0);
        is("nobody", x.came(0, 1), 0);
        is("none is first", x.came(0, 2), -2);
        LentTools y = of("village 3 1;tool 0 0 1;trust 0 1;trust 1 2;trust 2 1");
        y.lend(0, 1);
        for (int i = 0; i < 4; i++) {
            y.lend(0, 2);
            y.lend(0, 1);
        }
        is("so many houses there are not", y.came(0, 0), 0);
    }

    private static void doneBy() {
        LentTools x = of(FOUR);
        Due.rule(x, NEED_FIRST);
        Due.rule(x, "lend 9 if tool = 0 and to = 1 or tool = 0 and to = 2 and holder = 1 or tool = 1 or"
                + " tool = 0 and day >= 5");
        is("work 0 is never done", x.done(0), -2);
        // Tool 0 is sharp 5 in house 2 on day 1, tool 1 in house 0 on day 2; on day 5 it has rust 3.
        is("rule 1", x.done(1), -2);
        Due.rule(x, "lend 9 if tool = 0 and to = 1 or tool = 0 and holder > 0 or tool = 1");
        is("rule 2", x.done(2), 2);
        is("nothing changes", x.count(5) + x.tool(0, 3), 0);
        is("rule 3", x.done(3), -1);
        is("rule -1", x.done(-1), -1);
        is("run", x.run(2, 5), 23);
        is("all done: today", x.done(0), 5);
        LentTools none = of("village 2 1");
        Due.rule(none, "lend 1");
        none.day();
        is("none told", none.done(0), 1);
        LentTools y = of("village 2 20;tool 0 0 1;trust 0 1;work 1 0 1 1");
        Due.rule(y, "lend 1 if day = 59");
        Due.rule(y, "lend 1 if day = 60");
        Due.rule(y, "lend 1");
        is("the sixtieth day", y.done(0), 59);
        is("the next one", y.done(1), -2);
        is("this one", y.done(2), 0);
        y.day();
        is("from now", y.done(1), 60);
        is("today", y.done(2), 1);
    }

    private static void safeHouses() {
        LentTools x = of(FOUR);
        is("kind 0", x.safe(0), 4);
        is("kind 1", x.safe(1), 0);
        is("kind 4", x.safe(4), 0);
        is("kind 5", x.safe(5), -1);
        is("kind -1", x.safe(-1), -1);
        x.lend(0, 2);
        x.lend(0, 3);
        // Tool 0 is with 3 already, and can go nowhere but to its owner.
        is("with them already", x.safe(0), 8);
        // A tool's own owner needs another one.
        is("of two owners", of("village 2 1;tool 0 3 0;tool 1 3 0;trust 0 1;trust 1 0").safe(3), 0);
        is("by two ways", of("village 3 1;tool 0 3 0;trust 0 1;trust 0 2;trust 1 2;trust 2 1").safe(3), 6);
        is("by two tools", of("village 3 1;tool 0 3 0;tool 1 3 0;trust 0 2;trust 1 2").safe(3), 4);
    }

    private static void draws() {
        LentTools x = of("village 2 1;tool 0 0 1;trust 0 1;trust 1 0;work 1 0 2 5");
        is("seed", x.seed(1), 0);
        is("seed below", x.seed(-1), -1);
        is("seed of the least", x.seed(MIN_VALUE), -1);
        is("x", x.count(10), 1);
        is("the greatest", x.seed(MAX_VALUE), 1);
        is("back", x.seed(0), MAX_VALUE);
        // x: 12345 (0: itself), 1406932606 (21468: itself), 654583775 (9988: 1, a loan and the work),
        // 1449466924 (22117: 1, with it already), 229283573 (3498: 0, its owner), 1109335178 (16927: 1),
        // 1051550459 (16045: 1), 1293799192 (19741: 1), 794471793 (12122: 2, given back).
        is("no loan", x.harvests(1, 2, 1), 0);
        is("no pay", x.harvests(1, 2, 0), 0);
        is("a loan", x.harvests(1, 3, 1), 1);
        is("pay", x.harvests(1, 3, 0), 5);
        is("given back on the ninth", x.harvests(1, 9, 1), 1);
        // Two times two days: the second begins anew, with x 654583775 next.
        is("two times", x.harvests(2, 2, 1), 1);
        is("two times pay", x.harvests(2, 2, 0), 5);
        // Three times three days: loans on the draws 3, 4 and 7.
        is("three times", x.harvests(3, 3, 1), 3);
        is("three times pay", x.harvests(3, 3, 0), 15);
        is("nothing stays", x.tool(0, 3) + x.count(6) + x.count(5) + x.count(10), 0);
        int[][] wrong = {{0, 1, 0}, {11, 1, 0}, {1, 0, 0}, {1, 61, 0}, {1, 1, -1}, {1, 1, 2}, {MIN_VALUE, 1, 0}};
        for (int[] w : wrong) is("harvests " + w[0] + " " + w[1] + " " + w[2], x.harvests(w[0], w[1], w[2]), -1);
        is("ten times sixty", x.harvests(10, 60, 0), 50);
    }

    private static void images() {
        LentTools x = new LentTools();
        is("image without a village", x.image(3), 0);
        is("image -1", x.image(-1), -1);
        is("image 4", x.image(4), -1);
        Due.village(x, FOUR);
        Due.rule(x, "lend 1");
        x.seed(9);
        x.lend(0, 1);
        x.day();
        is("image", x.image(0), 1);
        is("acts stay", x.count(9), 2);
        x.seed(10);
        x.day();
        x.gift(0, 3);
        x.quarrel(1, 2);
        x.feed(0, 0, 0, 0, 0);
        Due.rule(x, "lend 2");
        x.feed(0, 0, 0, 0, 0);
        is("never made", x.back(1), -1);
        is("back -1", x.back(-1), -1);
        is("back 4", x.back(4), -1);
        is("back", x.back(0), 1);
        is("x", x.count(10), 9);
        is("acts", x.count(9), 0);
        is("undo", x.undo(), -1);
        is("rules stay", x.count(4), 2);
        is("tape stays", x.count(11), 20);
        is("holder", x.tool(0, 3), 1);
        is("out", x.tool(0, 5), 1);
        is("trust", x.house(1, 2, 0), 1);
        x.day();
        is("again", x.back(0), 1);
        is("made anew", x.image(0), 1);
        is("no village", x.back(3), 0);
        is("no houses", x.count(0), 0);
        is("x then", x.count(10), 0);
        is("no day", x.day(), -1);
        is("to the village", x.back(0), 1);
        is("houses", x.count(0), 4);
    }
}
