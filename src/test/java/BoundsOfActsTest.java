import static java.lang.Integer.MAX_VALUE;
import static java.lang.Integer.MIN_VALUE;

import java.util.function.Function;
import java.util.function.Supplier;

/**
 * The bounds that the document names for tools, works and houses, for acts, runs, draws' seeds and images (part II,
 * promises 6 to 17, 28, 31, 32), a method or a row of answers for each of its sentences.
 */
public final class BoundsOfActsTest {
    private static final Due DUE = new Due();
    private static final int[] FAR = {MIN_VALUE, -1000, MAX_VALUE};

    public static void main(String[] args) {
        ofTools();
        ofWorks();
        ofHouses();
        rust();
        sharp();
        lend();
        thanksAtMost();
        giveBack();
        does();
        quarrel();
        ring();
        whichRing();
        gift();
        day();
        undoRefused();
        undoTwenty();
        undoEach();
        runRefused();
        runDays();
        runAboveNothing();
        runClauses();
        runTests();
        runInOrder();
        runNotUndone();
        sums();
        words();
        seed();
        images();
        imagesRefused();
        DUE.close();
    }

    private static void is(String call, long got, long want) {
        DUE.is(call, got, want);
    }

    /** The call answers so in that scene, and nothing happens. */
    private static void refused(Supplier<LentTools> scene, String name, Function<LentTools, Integer> call, int want) {
        LentTools x = scene.get();
        is(name, call.apply(x), want);
        DUE.is("behind " + name, Probe.difference(x, scene.get()), "");
    }

    private static void refused(String name, Function<LentTools, Integer> call) {
        refused(Scenes::ordinary, name, call, LentTools.NONE);
    }

    // ---- tools, works and houses

    private static void ofTools() {
        DUE.sentence("tool: NONE without these");
        int[] due = {0, 0, 3, 2, 2, 1, 5, 0};
        LentTools x = Scenes.ordinary();
        for (int what = 0; what <= 7; what++) is("tool 0 " + what, x.tool(0, what), due[what]);
        is("the last tool", x.tool(1, 2), 9);
        is("one more", x.tool(2, 0), -1);
        is("one below", x.tool(-1, 0), -1);
        is("what below", x.tool(0, -1), -1);
        is("what above", x.tool(0, 8), -1);
        for (int far : FAR) {
            is("tool " + far, x.tool(far, 0), -1);
            is("what " + far, x.tool(0, far), -1);
        }
        for (int what = 0; what <= 7; what++) is("no village " + what, Scenes.noVillage().tool(0, what), -1);
        is("the sixth", Due.of("village 2 1" + ";tool 1 0 0".repeat(6)).tool(5, 0), 1);
        is("a seventh", Due.of("village 2 1" + ";tool 1 0 0".repeat(6)).tool(6, 0), -1);
        is("of none", Due.of("village 2 1").tool(0, 0), -1);
    }

    private static void ofWorks() {
        DUE.sentence("work: the DAY on which it was done (NONE); 1 if it could be done now, else 0; -2 without these");
        int[] due = {2, 0, 5, 10, -1, 1};
        LentTools x = Scenes.ordinary();
        for (int what = 0; what <= 5; what++) is("work 0 " + what, x.work(0, what), due[what]);
        is("could not be", x.work(1, 5), 0);
        is("the last work", x.work(1, 2), 9);
        is("one more", x.work(2, 0), -2);
        is("one below", x.work(-1, 0), -2);
        is("what below", x.work(0, -1), -2);
        is("what above", x.work(0, 6), -2);
        for (int far : FAR) {
            is("work " + far, x.work(far, 0), -2);
            is("what " + far, x.work(0, far), -2);
        }
        x.does(0);
        is("done on", x.work(0, 4), 1);
        is("could be done no more", x.work(0, 5), 0);
        for (int what = 0; what <= 5; what++) is("no village " + what, Scenes.noVillage().work(0, what), -2);
        is("the sixth", Due.of("village 2 1" + ";work 1 0 1 9".repeat(6)).work(5, 3), 9);
        is("a seventh", Due.of("village 2 1" + ";work 1 0 1 9".repeat(6)).work(6, 3), -2);
        is("of none", Due.of("village 2 1").work(0, 0), -2);
        LentTools y = Due.of("village 2 20;tool 0 0 0;trust 0 1;work 1 0 1 9");
        y.lend(0, 1);
        y.does(0);
        is("done on day 0", y.work(0, 4), 0);
        LentTools z = Scenes.onDay(999);
        z.lend(0, 1);
        is("on day 999", z.does(0), 7);
        is("done on day 999", z.work(0, 4), 999);
    }

    private static void ofHouses() {
        DUE.sentence("house: Of two HOUSES (unlike); NONE without these");
        LentTools x = Scenes.ordinary();
        is("trusts", x.house(2, 0, 0), 1);
        is("trusts not", x.house(0, 2, 0), 0);
        is("owes", x.house(1, 0, 1), 3);
        is("owes none", x.house(0, 1, 1), 0);
        for (int house = 0; house < 3; house++) {
            is("alike " + house, x.house(house, house, 0), -1);
            is("alike " + house + ", thanks", x.house(house, house, 1), -1);
        }
        is("what below", x.house(0, 1, -1), -1);
        is("what above", x.house(0, 1, 2), -1);
        is("one below", x.house(-1, 0, 0), -1);
        is("other below", x.house(0, -1, 0), -1);
        is("one above", x.house(3, 0, 0), -1);
        is("other above", x.house(0, 3, 0), -1);
        is("both above", x.house(3, 4, 0), -1);
        for (int far : FAR) {
            is("one " + far, x.house(far, 0, 0), -1);
            is("other " + far, x.house(0, far, 1), -1);
            is("what " + far, x.house(0, 1, far), -1);
        }
        is("no village", Scenes.noVillage().house(0, 1, 0), -1);
        is("the sixth", Due.of("village 6 1;trust 5 4").house(5, 4, 0), 1);
        is("a seventh", Due.of("village 6 1").house(6, 4, 0), -1);
    }

    private static void rust() {
        DUE.sentence("RUST: by how many DAYS it is OUT longer than LATE (0 without)");
        for (int late : new int[] {1, 2, 20}) {
            LentTools x = Due.of("village 2 " + late + ";tool 0 0 9;trust 0 1");
            x.lend(0, 1);
            is("lent just now", x.tool(0, 7), 0);
            for (int day = 1; day <= late; day++) is("day " + day + " of " + late, x.day(), 0);
            is("out as long as late", x.tool(0, 5), late);
            is("no rust yet", x.tool(0, 7), 0);
            is("as sharp still", x.tool(0, 6), 10);
            is("a day more", x.day(), 1);
            is("rust 1", x.tool(0, 7), 1);
            is("blunter", x.tool(0, 6), 9);
            x.day();
            is("rust 2", x.tool(0, 7), 2);
            is("given back", x.giveBack(0), 0);
            is("no rust at home", x.tool(0, 7), 0);
            x.lend(0, 1);
            is("lent anew: no rust", x.tool(0, 7), 0);
        }
        LentTools y = Due.of("village 2 20;tool 0 0 9");
        for (int i = 0; i < 22; i++) is("with its owner none is late", y.day(), 0);
        is("with its owner not out", y.tool(0, 5), 0);
    }

    private static void sharp() {
        DUE.sentence("It is SHARP 0 with its OWNER");
        LentTools x = Due.of("village 3 1;tool 0 0 9;trust 0 1;trust 1 2;trust 2 1");
        is("told", x.tool(0, 6), 0);
        x.lend(0, 1);
        x.giveBack(0);
        is("given back", x.tool(0, 6), 0);
        x.lend(0, 1);
        x.gift(0, 1);
        is("given to its holder", x.tool(0, 6), 0);

        DUE.sentence("else EDGE and LENT less RUST (0 at least)");
        LentTools y = Due.of("village 3 1;tool 0 0 0;trust 0 1;trust 1 2;trust 2 1;work 1 0 1 5");
        is("edge 0", y.lend(0, 1), 1);
        y.day();
        y.day();
        is("rust 1", y.tool(0, 6), 0);
        is("too blunt for the least work", y.does(0), -1);
        y.day();
        is("rust 2", y.tool(0, 6), 0);
        y.day();
        is("lent 2, rust 3", y.lend(0, 2), 0);
        is("lent 3, rust 3", y.lend(0, 1), 0);
        is("lent 4, rust 3", y.lend(0, 2), 1);
        LentTools z = Due.of("village 3 20;tool 0 0 9;trust 0 1;trust 1 2;trust 2 1");
        for (int i = 1; i <= 30; i++) is("lent " + i, z.lend(0, i % 2 == 0 ? 2 : 1), 9 + i);
    }

    // ---- acts by hand

    private static void lend() {
        DUE.sentence("lend: NONE, and nothing happens, without these");
        refused("tool below", x -> x.lend(-1, 1));
        refused("tool above", x -> x.lend(2, 1));
        refused("house below", x -> x.lend(0, -1));
        refused("house above", x -> x.lend(0, 3));
        refused("to its holder", x -> x.lend(0, 2));
        refused("to its owner, who is trusted", x -> x.lend(0, 0));
        refused("to its owner, who holds it", x -> x.lend(1, 1));
        refused("to a house that isn't trusted, though the owner trusts it not either", x -> x.lend(1, 0));
        for (int far : FAR) {
            refused("tool " + far, x -> x.lend(far, 1));
            refused("house " + far, x -> x.lend(0, far));
        }
        refused(Scenes::noVillage, "no village", x -> x.lend(0, 1), -1);
        LentTools x = Scenes.ordinary();
        is("to one that is trusted", x.lend(0, 1), 6);
        is("its holder", x.tool(0, 3), 1);
        is("lent", x.tool(0, 4), 3);
        is("out stays", x.tool(0, 5), 1);
        is("its owner stays", x.tool(0, 0), 0);
        is("thanks", x.house(1, 2, 1), 1);
        is("thanks to the owner stay", x.house(1, 0, 1), 3);
        is("an act more", x.count(9), 4);
        // Its holder must trust the house, not its owner.
        LentTools y = Due.of("village 3 1;tool 0 0 0;trust 0 1;trust 0 2");
        y.lend(0, 1);
        is("trusted by the owner alone", y.lend(0, 2), -1);
    }

    private static void thanksAtMost() {
        DUE.sentence("that HOUSE owes the HOLDER one THANKS more, 99 at most");
        // By the rule it goes to 1, then to and fro between 2 and 1: to 2 on each odd day.
        LentTools x = Due.of("village 3 20;tool 0 0 9;trust 0 1;trust 1 2;trust 2 1;thanks 2 1 9");
        Due.rule(x, "lend 1");
        x.run(0, 60);
        x.run(0, 60);
        x.run(0, 58);
        is("89 loans", x.house(2, 1, 1), 98);
        x.lend(0, 1);
        is("by hand", x.lend(0, 2) > 0, true);
        is("99", x.house(2, 1, 1), 99);
        x.lend(0, 1);
        x.lend(0, 2);
        is("99 at most", x.house(2, 1, 1), 99);
        x.undo();
        is("undone: as it was", x.house(2, 1, 1), 99);
        x.run(0, 2);
        is("99 at most by a rule", x.house(2, 1, 1), 99);
        // 88 loans by the rule on even days, then two by hand that weren't undone and one by the rule.
        is("the other way", x.house(1, 2, 1), 91);
        is("all together", x.count(8), 99 + 91 + 1);
        is("debt", x.debt(2), 8);
    }

    private static void is(String call, boolean got, boolean want) {
        DUE.is(call, got, want);
    }

    private static void giveBack() {
        DUE.sentence("giveBack: NONE, and nothing happens, without that TOOL, or if it is with them");
        refused("tool below", x -> x.giveBack(-1));
        refused("tool above", x -> x.giveBack(2));
        refused("it is with them", x -> x.giveBack(1));
        for (int far : FAR) refused("tool " + far, x -> x.giveBack(far));
        refused(Scenes::noVillage, "no village", x -> x.giveBack(0), -1);
        LentTools x = Scenes.ordinary();
        is("given back, trust or not", x.giveBack(0), 0);
        is("holder", x.tool(0, 3), 0);
        is("lent", x.tool(0, 4), 0);
        is("out", x.tool(0, 5), 0);
        is("thanks stay", x.count(8), 4);
        is("an act more", x.count(9), 4);
        is("not twice", x.giveBack(0), -1);
        LentTools y = Due.of("village 2 1;tool 1 0 0;trust 1 0");
        y.lend(0, 0);
        is("of house 1", y.giveBack(0), 1);
    }

    private static void does() {
        DUE.sentence("does: NONE, and nothing happens, if it can't be done");
        refused("work below", x -> x.does(-1));
        refused("work above", x -> x.does(2));
        refused("no tool there", x -> x.does(1));
        for (int far : FAR) refused("work " + far, x -> x.does(far));
        refused(Scenes::noVillage, "no village", x -> x.does(0), -1);
        refused(() -> {
            LentTools x = Scenes.ordinary();
            x.does(0);
            return x;
        }, "done already", x -> x.does(0), -1);
        refused(() -> Due.of("village 2 1;tool 0 0 9;work 0 0 1 1"), "blunt in its owner's hand", x -> x.does(0), -1);

        DUE.sentence("WORK: not done, a TOOL of its KIND that is SHARP enough with its HOUSE");
        LentTools x = Due.of("village 2 1;tool 0 1 4;trust 0 1;work 1 1 5 50;work 1 1 6 1;work 1 0 1 1;work 0 1 1 1");
        x.lend(0, 1);
        is("just sharp enough", x.work(0, 5), 1);
        is("one too blunt", x.work(1, 5), 0);
        is("another kind", x.work(2, 5), 0);
        is("another house", x.work(3, 5), 0);
        is("its pay", x.does(0), 50);
        is("one too blunt can't", x.does(1), -1);
        is("another kind can't", x.does(2), -1);
        is("another house can't", x.does(3), -1);
        is("earned", x.count(6), 50);
        is("bits", x.count(7), 1);
        is("acts", x.count(9), 2);
        // The sharpest that a work can ask for.
        LentTools y = Due.of("village 3 20;tool 0 0 9;trust 0 1;trust 1 2;trust 2 1;work 1 0 20 1");
        for (int i = 1; i <= 10; i++) y.lend(0, i % 2 == 0 ? 2 : 1);
        is("19 in another house", y.work(0, 5), 0);
        is("20", y.lend(0, 1), 20);
        is("does", y.does(0), 1);
        // One tool does every work there.
        LentTools z = Due.of("village 2 1;tool 0 0 0;trust 0 1" + ";work 1 0 1 50".repeat(6));
        z.lend(0, 1);
        for (int i = 0; i < 6; i++) is("work " + i, z.does(i), 50);
        is("all bits", z.count(7), 63);
        is("all earned", z.count(6), 300);
    }

    private static void quarrel() {
        DUE.sentence("quarrel: false, and nothing happens, without these (one did)");
        int[][] wrong = {{-1, 0}, {0, -1}, {3, 0}, {0, 3}, {0, 0}, {2, 2}, {MIN_VALUE, 1}, {1, MAX_VALUE}, {-1, -2}, {3, 4}};
        for (int[] w : wrong) {
            refused(Scenes::ordinary, "quarrel " + w[0] + " " + w[1], x -> x.quarrel(w[0], w[1]) ? 1 : 0, 0);
        }
        refused(Scenes::noVillage, "no village", x -> x.quarrel(0, 1) ? 1 : 0, 0);
        refused(() -> Due.of("village 3 1;trust 0 1;trust 1 2"), "neither did", x -> x.quarrel(0, 2) ? 1 : 0, 0);
        refused(() -> Due.of("village 3 1;trust 0 1;trust 1 2"), "neither did", x -> x.quarrel(2, 0) ? 1 : 0, 0);

        DUE.sentence("neither of two HOUSES TRUSTS the other one any more; one did");
        for (String trust : new String[] {";trust 0 1", ";trust 1 0", ";trust 0 1;trust 1 0"}) {
            for (int one = 0; one < 2; one++) {
                LentTools x = Due.of("village 3 1;trust 1 2;trust 2 0" + trust);
                is("quarrel", x.quarrel(one, 1 - one), true);
                is("neither", x.house(0, 1, 0) + x.house(1, 0, 0), 0);
                is("the others stay", x.house(1, 2, 0) + x.house(2, 0, 0), 2);
                is("an act", x.count(9), 1);
                is("no second", x.quarrel(one, 1 - one), false);
            }
        }
        is("the last two", Due.of("village 6 1;trust 5 4").quarrel(4, 5), true);
    }

    private static void ring() {
        DUE.sentence("ring: NONE, and nothing happens, if there is none");
        refused("no ring", LentTools::ring);
        refused(Scenes::noVillage, "no village", LentTools::ring, -1);
        refused(() -> Due.of("village 3 1"), "no thanks", LentTools::ring, -1);
        refused(() -> Due.of("village 3 1;thanks 0 1 9;thanks 1 2 9;thanks 0 2 9"), "they don't close", LentTools::ring, -1);
        refused(() -> Due.of("village 2 1;thanks 0 1 9;thanks 1 0 0"), "0 owed is none", LentTools::ring, -1);

        DUE.sentence("each is one less");
        LentTools x = Due.of("village 2 1;thanks 0 1 9;thanks 1 0 2");
        is("two", x.ring(), 2);
        is("one less", x.house(0, 1, 1), 8);
        is("and the other", x.house(1, 0, 1), 1);
        is("an act", x.count(9), 1);
        is("again", x.ring(), 2);
        is("to 0", x.house(1, 0, 1), 0);
        is("then there is none", x.ring(), -1);
        is("it stays", x.house(0, 1, 1), 7);
        is("two acts", x.count(9), 2);
    }

    private static void whichRing() {
        DUE.sentence("RING: of the shortest rings the first one, as a row from its least HOUSE on");
        for (int houses = 2; houses <= 6; houses++) {
            StringBuilder text = new StringBuilder("village " + houses + " 1");
            for (int i = 0; i < houses; i++) text.append(";thanks " + i + " " + (i + 1) % houses + " 1");
            LentTools x = Due.of(text.toString());
            is("of all " + houses, x.ring(), houses);
            is("none left", x.count(8), 0);
            is("no more", x.ring(), -1);
        }
        LentTools x = Due.of("village 6 1;thanks 0 1 1;thanks 1 2 1;thanks 2 0 1;thanks 4 5 1;thanks 5 4 1");
        is("the shortest, though not the first", x.ring(), 2);
        is("of 4 and 5", x.house(4, 5, 1) + x.house(5, 4, 1), 0);
        is("then three", x.ring(), 3);
        // 0 2 1 and 0 3 1 and 0 4 1: the first is by 2.
        LentTools y = Due.of("village 5 1;thanks 0 4 1;thanks 0 3 1;thanks 0 2 1;thanks 4 1 1;thanks 3 1 1;thanks 2 1 1;"
                + "thanks 1 0 3");
        for (int by = 2; by <= 4; by++) {
            is("three", y.ring(), 3);
            is("by " + by, y.house(0, by, 1) + y.house(by, 1, 1), 0);
            is("left", y.house(1, 0, 1), 4 - by);
        }
        // 0 3 2 is ahead of 1 2 4, which has the lesser second house.
        LentTools z = Due.of("village 5 1;thanks 1 2 1;thanks 2 4 1;thanks 4 1 1;thanks 0 3 1;thanks 3 2 1;thanks 2 0 1");
        is("three", z.ring(), 3);
        is("from 0 on", z.house(0, 3, 1), 0);
        is("not from 1 on", z.house(1, 2, 1), 1);
    }

    private static void gift() {
        DUE.sentence("gift: NONE, and nothing happens, without these (another one)");
        refused("tool below", x -> x.gift(-1, 1));
        refused("tool above", x -> x.gift(2, 1));
        refused("house below", x -> x.gift(0, -1));
        refused("house above", x -> x.gift(0, 3));
        refused("to its owner, though it is lent", x -> x.gift(0, 0));
        refused("to its owner, who holds it", x -> x.gift(1, 1));
        for (int far : FAR) {
            refused("tool " + far, x -> x.gift(far, 1));
            refused("house " + far, x -> x.gift(0, far));
        }
        refused(Scenes::noVillage, "no village", x -> x.gift(0, 1), -1);

        DUE.sentence("GIFT: it is with them then, LENT, OUT 0");
        for (int house = 1; house <= 2; house++) {
            LentTools x = Scenes.ordinary();
            is("the owner it had", x.gift(0, house), 0);
            is("owner", x.tool(0, 0), house);
            is("holder", x.tool(0, 3), house);
            is("lent", x.tool(0, 4), 0);
            is("out", x.tool(0, 5), 0);
            is("blunt", x.tool(0, 6), 0);
            is("thanks stay", x.count(8), 4);
            is("an act more", x.count(9), 4);
            is("and back", x.gift(0, 0), house);
        }
        // No trust is asked for.
        is("to one who isn't trusted", Due.of("village 2 1;tool 0 0 0").gift(0, 1), 0);
    }

    private static void day() {
        DUE.sentence("day: NONE, and nothing happens, without a VILLAGE, or on DAY 999");
        refused(Scenes::noVillage, "no village", LentTools::day, -1);
        refused(() -> Scenes.onDay(999), "day 999", LentTools::day, -1);
        LentTools x = Scenes.onDay(998);
        is("the last day", x.day(), 0);
        is("999", x.count(5), 999);
        is("undone", x.undo(), 1);
        is("998", x.count(5), 998);

        DUE.sentence("how many TOOLS are OUT longer than LATE then");
        LentTools y = Due.of("village 2 1" + ";tool 0 0 0".repeat(6) + ";trust 0 1");
        for (int tool = 0; tool < 6; tool++) {
            y.lend(tool, 1);
            is("day " + (tool + 1), y.day(), tool);
        }
        is("all six", y.day(), 6);
        y.giveBack(3);
        y.gift(4, 1);
        is("but two", y.day(), 4);
        is("of no tools", Due.of("village 2 1").day(), 0);
    }

    // ---- undone

    private static void undoRefused() {
        DUE.sentence("undo: NONE, and nothing happens: none can");
        refused(Scenes::noVillage, "no village", LentTools::undo, -1);
        refused(() -> Scenes.onDay(0), "no act", LentTools::undo, -1);
        refused(() -> {
            LentTools x = Scenes.onDay(5);
            x.undo();
            return x;
        }, "all undone", LentTools::undo, -1);
        LentTools x = Scenes.ordinary();
        is("two more", x.undo(), 2);
        is("one more", x.undo(), 1);
        is("none more", x.undo(), 0);
        is("none", x.undo(), -1);
    }

    private static void undoTwenty() {
        DUE.sentence("The last 20 can be UNDONE, the last first");
        for (int acts : new int[] {19, 20, 21, 45}) {
            LentTools x = Due.of("village 2 1");
            for (int i = 1; i <= acts; i++) {
                x.day();
                is("after " + i, x.count(9), Math.min(20, i));
            }
            int can = Math.min(20, acts);
            for (int i = 1; i <= can; i++) {
                is("undo " + i + " of " + acts, x.undo(), can - i);
                is("day", x.count(5), acts - i);
            }
            is("no more", x.undo(), -1);
            is("day stays", x.count(5), acts - can);
        }
        // The rows kept are used again in a circle, to and fro across its end.
        LentTools x = Due.of("village 2 1");
        for (int i = 0; i < 25; i++) x.day();
        for (int i = 0; i < 3; i++) x.undo();
        is("17", x.count(9), 17);
        for (int i = 0; i < 5; i++) x.day();
        is("20 again", x.count(9), 20);
        for (int i = 19; i >= 0; i--) is("undo", x.undo(), i);
        is("day 7", x.count(5), 7);
        is("no more", x.undo(), -1);
        x.day();
        is("one can again", x.undo(), 0);
    }

    /** An act that is undone leaves all as it was. */
    private static void undone(String name, Function<LentTools, Integer> act) {
        LentTools x = ringed();
        is(name + " is done", act.apply(x) >= 0, true);
        is(name + " is one act", x.count(9), 5);
        is(name + " undone", x.undo(), 4);
        DUE.is("behind " + name, Probe.difference(x, ringed()), "");
    }

    private static LentTools ringed() {
        LentTools x = Due.of("village 3 2;tool 0 0 3;tool 1 1 9;trust 0 1;trust 1 2;trust 2 1;trust 2 0;work 2 0 5 10;"
                + "thanks 0 1 2");
        x.lend(0, 1);
        x.day();
        x.lend(0, 2);
        x.day();
        return x;
    }

    private static void undoEach() {
        DUE.sentence("The last ACT is UNDONE");
        undone("lend", x -> x.lend(0, 1));
        undone("giveBack", x -> x.giveBack(0));
        undone("does", x -> x.does(0));
        undone("quarrel", x -> x.quarrel(1, 2) ? 0 : -1);
        undone("ring", LentTools::ring);
        undone("day", LentTools::day);
        undone("gift", x -> x.gift(0, 2));
        LentTools x = ringed();
        x.undo();
        is("undoing is no act: no way forth again", x.undo(), 2);
        x.seed(44);
        x.undo();
        is("nor is a seed one", x.count(10), 44);
    }

    // ---- by a rule

    private static void runRefused() {
        DUE.sentence("run: n DAYS (1 to 60); NONE, and nothing happens, without these (no VILLAGE)");
        refused("rule below", x -> x.run(-1, 1));
        refused("rule above", x -> x.run(1, 1));
        refused("no days", x -> x.run(0, 0));
        refused("days below", x -> x.run(0, -1));
        refused("days above", x -> x.run(0, 61));
        for (int far : FAR) {
            refused("rule " + far, x -> x.run(far, 1));
            refused("days " + far, x -> x.run(0, far));
        }
        refused(Scenes::noVillage, "no village", x -> x.run(0, 1), -1);
        is("the sixth rule", Scenes.sixRules().run(5, 1), 0);
        is("a seventh", Scenes.sixRules().run(6, 1), -1);

        DUE.sentence("run: or if DAY would be above 999");
        refused(() -> Scenes.onDay(999), "a day from 999 on", x -> x.run(0, 1), -1);
        refused(() -> Scenes.onDay(998), "two days from 998 on", x -> x.run(0, 2), -1);
        refused(() -> Scenes.onDay(940), "sixty days from 940 on", x -> x.run(0, 60), -1);
        LentTools x = Scenes.onDay(998);
        is("one day from 998 on", x.run(1, 1), 7);
        is("day 999", x.count(5), 999);
        is("done on day 998", x.work(0, 4), 998);
        LentTools y = Scenes.onDay(939);
        is("sixty days from 939 on", y.run(0, 60), 0);
        is("day 999 again", y.count(5), 999);
        is("59 from 940 on", Scenes.onDay(940).run(0, 59), 0);
    }

    private static void runDays() {
        DUE.sentence("BY A RULE n DAYS (1 to 60): PAY earned in them");
        LentTools x = Due.of("village 2 20;tool 0 0 0;trust 0 1;work 1 0 1 5;work 1 0 1 6");
        Due.rule(x, "lend day - 58");
        x.image(0);
        is("59 days: nothing above 0", x.run(0, 59), 0);
        is("day 59", x.count(5), 59);
        is("the sixtieth", x.run(0, 1), 11);
        is("day 60", x.count(5), 60);
        is("out since it was lent", x.tool(0, 5), 1);
        is("nothing more is earned", x.run(0, 60), 0);
        is("earned", x.count(6), 11);
        x.back(0);
        is("sixty at once", x.run(0, 60), 11);
        is("done on day 59", x.work(1, 4), 59);
    }

    /** By a rule a tool of house 0 goes to one of the houses 1 to 5 that it trusts, or stays (0). */
    private static void goes(String rule, int want) {
        LentTools x = Due.of("village 6 5;tool 0 0 0;trust 0 5;trust 0 4;trust 0 3;trust 0 2;trust 0 1");
        is("rule() of " + rule, Due.rule(x, rule), 0);
        x.run(0, 1);
        is(rule, x.tool(0, 3), want);
    }

    private static void runAboveNothing() {
        DUE.sentence("is greatest, if it is above 0; of several the first");
        goes("lend 0", 0);
        goes("lend 0-1", 0);
        goes("lend 0-to", 0);
        goes("lend 1", 1);
        goes("lend to/5", 5);
        goes("lend to-4", 5);
        goes("lend to-5", 0);
        goes("lend 4-to", 1);
        goes("lend to/2", 4);
        goes("lend to%4", 3);
        goes("lend to*0+1", 1);
        goes("lend 99999*99999", 1);
        // Far below 0 in one house, above it in another.
        goes("lend 0-99999 if to<4;lend 1", 4);

        DUE.sentence("LENT to the HOUSE to which it can be");
        LentTools x = Due.of("village 4 5;tool 1 0 0;trust 1 2;trust 2 1;trust 2 3");
        Due.rule(x, "lend 9-to");
        x.run(0, 1);
        is("not to 0, which isn't trusted", x.tool(0, 3), 2);
        x.run(0, 1);
        is("not to 1, the owner", x.tool(0, 3), 3);
        x.run(0, 1);
        is("from 3 to none", x.tool(0, 3), 3);
        is("lent twice", x.tool(0, 4), 2);
        is("out", x.tool(0, 5), 3);
        is("thanks", x.count(8), 2);
        LentTools y = Due.of("village 3 5;tool 2 0 0;trust 2 1;trust 2 0");
        Due.rule(y, "lend 1");
        y.run(0, 1);
        is("to 0, the first", y.tool(0, 3), 0);
    }

    private static void runClauses() {
        DUE.sentence("the RULE's first CLAUSE without a TEST, or whose TEST holds (0 without)");
        goes("lend 1 if to=3", 3);
        goes("lend 1 if to=9", 0);
        goes("lend 1 if to=9;lend 1 if to=2", 2);
        goes("lend 0 if to=1;lend 1", 2);
        goes("lend 0;lend 1", 0);
        goes("lend 1;lend to", 1);
        goes("lend 2 if to=4;lend 3 if to=4;lend 2 if to=3", 3);
        goes("lend 1 if to=1 or to=2;lend 2 if to=2 or to=3;lend 3 if to=5 and to=4", 3);
    }

    private static void runTests() {
        DUE.sentence("SUM SIGN SUM, SIGN one of < <= = >= >");
        goes("lend to if to<3", 2);
        goes("lend to if to<=3", 3);
        goes("lend to if to=3", 3);
        goes("lend 9-to if to>=3", 3);
        goes("lend 9-to if to>3", 4);
        goes("lend 1 if 2<2 or 2>2", 0);
        goes("lend 1 if 2<=2 and 2>=2 and 2=2", 1);
        goes("lend 1 if 2<=1 or 1>=2 or 1=2", 0);
        goes("lend 1 if 1<=2 and 2>=1 and 1<2 and 2>1", 1);

        DUE.sentence("TEST: PART { or PART }. PART: FACT { and FACT }. FACT: not FACT | [ TEST ]");
        goes("lend 1 if not 1=1", 0);
        goes("lend 1 if not 1=2", 1);
        goes("lend 1 if not not 1=1", 1);
        goes("lend 1 if not not 1=2", 0);
        goes("lend 1 if not 1=1 or 1=1", 1);
        goes("lend 1 if not [1=1 or 1=1]", 0);
        goes("lend 1 if not 1=2 and 1=2", 0);
        goes("lend 1 if 1=1 or 1=1 and 1=2", 1);
        goes("lend 1 if [1=1 or 1=1] and 1=2", 0);
        goes("lend 1 if 1=2 and 1=2 or 1=1", 1);
        goes("lend 1 if 1=2 and [1=2 or 1=1]", 0);
        goes("lend 1 if 1=2 or 1=2 or 1=1", 1);
        goes("lend 1 if 1=1 and 1=1 and 1=2", 0);

        DUE.sentence("SUM: TERM { (+ or -) TERM }. TERM: VALUE { (* or / or %) VALUE }");
        goes("lend 1 if 2+3*4=14 and 2*3+4=10 and 9-3-2=4 and 9-3+2=8", 1);
        goes("lend 1 if 9/2*2=8 and 9*2/4=4 and 9%5*3=12 and 9*3%5=2 and 20-9/2=16", 1);
    }

    private static void runInOrder() {
        DUE.sentence("by numbers, each TOOL; then each WORK, by numbers, that can be done; then the DAY");
        // Once tool 0 is lent to 1, that owes 0 one thanks: tool 1 sees it.
        LentTools x = Due.of("village 3 5;tool 0 0 0;tool 0 0 0;trust 0 1;trust 0 2");
        Due.rule(x, "lend 9 if owes = 0;lend 1");
        x.run(0, 1);
        is("tool 0", x.tool(0, 3), 1);
        is("tool 1", x.tool(1, 3), 2);
        // The works are done once all are lent, on that day; both by one tool.
        LentTools y = Due.of("village 2 1;tool 0 0 4;trust 0 1;work 1 0 5 3;work 1 0 6 9;work 1 0 1 4");
        Due.rule(y, "lend 1");
        y.day();
        is("pay", y.run(0, 1), 7);
        is("bits", y.count(7), 5);
        is("on day 1", y.work(0, 4), 1);
        is("day 2 then", y.count(5), 2);
        // Rust comes by the day, behind the works.
        LentTools z = Due.of("village 2 1;tool 0 0 0;trust 0 1;work 1 0 1 3");
        Due.rule(z, "lend 1");
        z.lend(0, 1);
        z.day();
        is("in time", z.run(0, 1), 3);
        is("rusty then", z.tool(0, 6), 0);
    }

    private static void runNotUndone() {
        DUE.sentence("These can't be UNDONE: nothing that was done ahead of them can, either");
        LentTools x = Scenes.ordinary();
        is("three acts", x.count(9), 3);
        x.run(0, 1);
        is("none", x.count(9), 0);
        is("undo", x.undo(), -1);
        is("day stays", x.count(5), 2);
        x.day();
        x.day();
        is("two acts more", x.undo(), 1);
        is("undone", x.undo(), 0);
        is("to the run", x.undo(), -1);
        is("day of the run's end", x.count(5), 2);
    }

    private static void sums() {
        DUE.sentence("/ is towards 0, % its rest, both 0 by 0");
        goes("lend 7/2", 1);
        goes("lend 1 if 7/2=3 and 7%2=1 and 1/2=0 and 1%2=1", 1);
        goes("lend 1 if 5/0=0 and 5%0=0 and 0/0=0 and 0%0=0", 1);
        goes("lend 1 if 5/0*3+1=1 and 5%0-1=0-1", 1);
        goes("lend 1 if 8/2/2=2 and 100/5*2=40 and 17%7%2=1", 1);
        String least = "65536*65536*65536*32768";
        // The least number divided by 2 ^ 63 in parts is -1.
        String minus = least + "/32768/32768/32768/32768/8";
        goes("lend 1 if " + minus + "=0-1", 1);
        goes("lend 1 if " + minus + "/2=0 and " + minus + "%2=0-1", 1);
        goes("lend 1 if " + least + "/0=0 and " + least + "%0=0", 1);
        goes("lend 1 if " + least + "/3*3+" + least + "%3=" + least, 1);

        DUE.sentence("all goes round in 64 bits");
        goes("lend 1 if " + least + "<0", 1);
        goes("lend 1 if " + least + "-1>0", 1);
        goes("lend 1 if 0-" + least + "=" + least, 1);
        goes("lend 1 if " + least + "*2=0", 1);
        goes("lend 1 if " + least + "-1+1=" + least, 1);
        goes("lend " + least, 0);
        goes("lend " + least + "-to", 1);
        goes("lend 65536*65536*65536*65536", 0);
        goes("lend 65536*65536*65536*65536+to", 5);
        goes("lend 65536*65536", 1);
        goes("lend 1 if 99999*99999>99999", 1);
    }

    private static void words() {
        DUE.sentence("lent (how often it was since it left its OWNER), out (DAYS)");
        goes("lend 1 if lent=0 and out=0 and holder=owner", 1);
        DUE.sentence("sharp (how SHARP it would be there)");
        goes("lend 1 if sharp=1", 1);
        LentTools x = Due.of("village 3 1;tool 0 0 0;trust 0 1;trust 1 2");
        Due.rule(x, "lend 1 if sharp=0 and out=4 and lent=1 and day=4");
        x.lend(0, 1);
        for (int i = 0; i < 4; i++) x.day();
        x.run(0, 1);
        is("0 at least: lent 2, rust 3", x.tool(0, 3), 2);

        DUE.sentence("need (the greatest of WORKS there not done that need this KIND; 0), pay (of all these together)");
        goes("lend 1 if need=0 and pay=0", 1);
        String works = "village 2 1;tool 0 2 9;trust 0 1;work 1 2 3 50;work 1 2 20 50;work 1 2 11 50;work 1 1 20 50;"
                + "work 0 2 20 50";
        LentTools y = Due.of(works);
        Due.rule(y, "lend 1 if need=20 and pay=150");
        y.run(0, 1);
        is("20 and 150", y.tool(0, 3), 1);
        LentTools z = Due.of("village 2 1;tool 0 2 9;tool 0 2 9;trust 0 1;work 1 2 10 7;work 1 2 4 5");
        Due.rule(z, "lend 1 if need=0 and pay=0");
        z.lend(1, 1);
        z.does(0);
        z.run(0, 1);
        is("one is not done yet", z.tool(0, 3), 0);
        z.run(0, 1);
        is("done: none", z.tool(0, 3), 1);

        DUE.sentence("trusts (1, if that HOUSE TRUSTS the holder, too, else 0), owes (THANKS that HOUSE owes the holder)");
        LentTools w = Due.of("village 3 1;tool 0 0 0;trust 0 1;trust 0 2;trust 2 0;thanks 2 0 9;thanks 0 1 9");
        Due.rule(w, "lend 1 if trusts=1 and owes=9");
        w.run(0, 1);
        is("2 trusts and owes, too", w.tool(0, 3), 2);
        LentTools v = Due.of("village 3 1;tool 0 0 0;trust 0 1;trust 0 2;trust 1 0;thanks 1 0 1;thanks 0 2 9");
        Due.rule(v, "lend 1 if trusts=0 and owes=0");
        v.run(0, 1);
        is("2 doesn't", v.tool(0, 3), 2);
    }

    // ---- x and images

    private static void seed() {
        DUE.sentence("seed: what it was; NONE, and nothing happens, below 0");
        LentTools x = new LentTools();
        is("0 at first", x.seed(0), 0);
        is("1", x.seed(1), 0);
        is("the greatest", x.seed(MAX_VALUE), 1);
        is("0 again", x.seed(0), MAX_VALUE);
        is("x", x.count(10), 0);
        refused("below 0", y -> y.seed(-1));
        refused("the least", y -> y.seed(MIN_VALUE));
        refused(Scenes::noVillage, "below 0, no village", y -> y.seed(-1), -1);
    }

    private static void images() {
        DUE.sentence("IMAGES 0 to 3: all but the TAPE and the RULES, as it is; gone back to, it is as it was");
        LentTools x = Due.of("village 3 1;tool 0 0 3;trust 0 1;trust 1 2;work 1 0 1 5;thanks 0 1 4");
        for (int k = 0; k < 4; k++) {
            is("image " + k, x.image(k), k);
            x.seed(100 + k);
            x.day();
        }
        is("acts stay", x.count(9), 4);
        x.lend(0, 1);
        x.does(0);
        x.quarrel(0, 1);
        x.ring();
        x.gift(0, 2);
        Due.rule(x, "lend 1");
        x.feed(0, 0, 0, 0, 0);
        for (int k = 3; k >= 0; k--) {
            is("back " + k, x.back(k), k);
            is("day", x.count(5), k);
            is("x", x.count(10), k == 0 ? 0 : 99 + k);
            is("owner", x.tool(0, 0), 0);
            is("trust", x.house(0, 1, 0), 1);
            is("thanks", x.count(8), 4);
            is("done", x.count(7) + x.count(6), 0);
            is("nothing can be undone", x.count(9), 0);
            is("undo", x.undo(), -1);
            is("the rules stay", x.count(4), 1);
            is("the tape stays", x.count(11), 20);
        }
        DUE.sentence("gone back to again, and made again");
        x.day();
        is("acts from there on", x.count(9), 1);
        x.seed(55);
        is("unchanged by acts since", x.back(0), 0);
        is("nothing undone", x.count(9), 0);
        is("x as in the image", x.count(10), 0);
        x.day();
        x.day();
        is("made again", x.image(0), 2);
        is("the acts stay", x.count(9), 2);
        is("undone", x.undo(), 1);
        is("the new one", x.back(0), 2);
        is("the others stay", x.back(1), 1);
        x.run(0, 60);
        is("a later day", x.image(3), 61);
        Due.village(x, "village 6 20");
        is("in another village", x.back(3), 61);
        is("houses of that one", x.count(0), 3);
        is("late of that one", x.count(1), 1);
        LentTools y = Scenes.onDay(999);
        is("day 999", y.image(3), 999);
        is("back to 999", y.back(3), 999);
    }

    private static void imagesRefused() {
        DUE.sentence("image: NONE without it");
        refused("image below", x -> x.image(-1));
        refused("image above", x -> x.image(4));
        for (int far : FAR) refused("image " + far, x -> x.image(far));

        DUE.sentence("back: NONE, and nothing happens, if it was never made, or without it");
        refused("never made", x -> x.back(1));
        refused("never made", x -> x.back(3));
        refused("back below", x -> x.back(-1));
        refused("back above", x -> x.back(4));
        for (int far : FAR) refused("back " + far, x -> x.back(far));
        for (int k = 0; k < 4; k++) {
            int image = k;
            refused(Scenes::noVillage, "never made, no village", x -> x.back(image), -1);
        }
    }
}
