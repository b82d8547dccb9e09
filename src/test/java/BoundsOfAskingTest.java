import static java.lang.Integer.MAX_VALUE;
import static java.lang.Integer.MIN_VALUE;

import java.util.function.Consumer;

/**
 * The bounds that the document names for what is asked (part III, promises 18 to 27, 29, 30), a method or a row of
 * answers for each of its sentences.
 */
public final class BoundsOfAskingTest {
    private static final Due DUE = new Due();
    private static final int[] FAR = {MIN_VALUE, -1000, MAX_VALUE};

    /** Of six houses each trusts each other one. */
    private static final String ALL_TRUST = allTrust();

    public static void main(String[] args) {
        nothingChanges();
        chainRefused();
        chainRows();
        chainEnds();
        chainSharp();
        matchRefused();
        matchNoneTwice();
        matchFirst();
        matchSharpEnough();
        worth();
        owner();
        breaksRefused();
        breaks();
        rings();
        debt();
        cameRefused();
        came();
        doneRefused();
        done();
        doneLate();
        safe();
        harvestsRefused();
        harvests();
        harvestDraws();
        count();
        DUE.close();
    }

    private static void is(String call, long got, long want) {
        DUE.is(call, got, want);
    }

    private static String allTrust() {
        StringBuilder text = new StringBuilder();
        for (int one = 0; one < 6; one++) {
            for (int other = 0; other < 6; other++) {
                if (one != other) text.append(";trust" + one + " " + other);
            }
        }
        return text.toString();
    }

    private static void nothingChanges() {
        DUE.sentence("By what is asked nothing changes");
        asked("tool, work, house, count", x -> {
            for (int what = -1; what <= 12; what++) {
                x.tool(0, what);
                x.work(0, what);
                x.house(0, 1, what);
                x.count(what);
            }
        });
        asked("chain", x -> {
            for (int house = -1; house <= 3; house++) {
                for (int what = -1; what <= 7; what++) {
                    x.chain(0, house, true, what);
                    x.chain(1, house, false, what);
                }
            }
        });
        asked("match, worth", x -> {
            for (int what = -1; what <= 7; what++) x.match(what);
            for (int tool = -1; tool <= 2; tool++) x.worth(tool);
        });
        asked("owner, breaks", x -> {
            for (int what = -1; what <= 3; what++) {
                x.owner(0, what);
                x.owner(1, what);
                x.breaks(what);
            }
        });
        asked("rings, debt", x -> {
            for (int what = -1; what <= 8; what++) x.rings(what);
            for (int house = -1; house <= 3; house++) x.debt(house);
        });
        asked("came", x -> {
            for (int what = -1; what <= 3; what++) {
                x.came(0, what);
                x.came(1, what);
            }
        });
        asked("done", x -> {
            for (int rule = -1; rule <= 1; rule++) x.done(rule);
        });
        asked("safe", x -> {
            for (int kind = -1; kind <= 5; kind++) x.safe(kind);
        });
        asked("harvests", x -> {
            x.harvests(1, 1, 0);
            x.harvests(10, 60, 0);
            x.harvests(10, 60, 1);
        });
    }

    private static void asked(String name, Consumer<LentTools> asks) {
        LentTools x = Scenes.ordinary();
        asks.accept(x);
        DUE.is("behind " + name, Probe.difference(x, Scenes.ordinary()), "");
    }

    // ---- chains

    private static void chainRefused() {
        DUE.sentence("chain: -3 without these");
        for (boolean longest : new boolean[] {true, false}) {
            LentTools x = Scenes.ordinary();
            is("tool below", x.chain(-1, 1, longest, 0), -3);
            is("tool above", x.chain(2, 1, longest, 0), -3);
            is("house below", x.chain(0, -1, longest, 0), -3);
            is("house above", x.chain(0, 3, longest, 0), -3);
            is("what below", x.chain(0, 1, longest, -1), -3);
            is("what above", x.chain(0, 1, longest, 7), -3);
            is("what above, where it can't come", x.chain(0, 0, longest, 7), -3);
            for (int far : FAR) {
                is("tool " + far, x.chain(far, 1, longest, 0), -3);
                is("house " + far, x.chain(0, far, longest, 0), -3);
                is("what " + far, x.chain(0, 1, longest, far), -3);
            }
            is("no village", Scenes.noVillage().chain(0, 0, longest, 0), -3);
            is("the last what", x.chain(0, 1, longest, 6), -2);
            is("the last tool and house", x.chain(1, 2, longest, 0), 1);
        }
    }

    private static void chainRows() {
        DUE.sentence("chain 2 to 6: the HOUSE in that place less 2 (-2: so many there are not)");
        LentTools x = Due.of("village 6 1;tool 0 0 9" + ALL_TRUST);
        int[] longest = {5, 14, 1, 2, 3, 4, 5};
        int[] fewest = {1, 10, 5, -2, -2, -2, -2};
        for (int what = 0; what <= 6; what++) {
            is("longest to 5, " + what, x.chain(0, 5, true, what), longest[what]);
            is("fewest to 5, " + what, x.chain(0, 5, false, what), fewest[what]);
        }
        int[] toOne = {5, 14, 2, 3, 4, 5, 1};
        for (int what = 0; what <= 6; what++) is("longest to 1, " + what, x.chain(0, 1, true, what), toOne[what]);
        x.lend(0, 3);
        int[] fromThree = {4, 14, 1, 2, 4, 5, -2};
        for (int what = 0; what <= 6; what++) is("from 3 to 5, " + what, x.chain(0, 5, true, what), fromThree[what]);

        DUE.sentence("none twice, neither the HOLDER nor the OWNER; the longest, the first of these; FEWEST: the shortest");
        // By 1 and 4, by 2 and 4, by 3 and 4; by 5 alone; never by 0, though 1 lends there and it lends to 5.
        LentTools y = Due.of("village 6 1;tool 0 0 0;trust 0 3;trust 0 2;trust 0 1;trust 3 4;trust 2 4;trust 1 4;trust 4 0;"
                + "trust 4 3;trust 4 5;trust 0 5");
        int[] row = {3, 3, 1, 4, 5, -2, -2};
        for (int what = 0; what <= 6; what++) is("of three the first, " + what, y.chain(0, 5, true, what), row[what]);
        int[] few = {1, 1, 5, -2, -2, -2, -2};
        for (int what = 0; what <= 6; what++) is("alone, " + what, y.chain(0, 5, false, what), few[what]);
        int[] two = {2, 2, 1, 4, -2, -2, -2};
        for (int what = 0; what <= 6; what++) is("the first of the shortest, " + what, y.chain(0, 4, false, what), two[what]);
        // To 3 by 4, and not by 4 twice nor by 3 itself.
        int[] three = {3, 3, 1, 4, 3, -2, -2};
        for (int what = 0; what <= 6; what++) is("to 3, " + what, y.chain(0, 3, true, what), three[what]);
        y.lend(0, 3);
        y.lend(0, 4);
        is("from 4 on to 3 again", y.chain(0, 3, true, 0), 1);
        is("not by 3 and its holder to 5", y.chain(0, 5, true, 0), 1);
        is("not by its owner to 2", y.chain(0, 2, true, 0), -2);
        // Of house 1, with 2: by 0 and 4 to 3; by its owner and 4 or 5 there would be a row ahead of it.
        LentTools z = Due.of("village 6 1;tool 1 0 0;trust 1 2;trust 2 5;trust 5 4;trust 4 3;trust 2 1;trust 1 4;trust 1 0;"
                + "trust 2 0;trust 0 4;trust 0 1");
        z.lend(0, 2);
        int[] by = {3, 4, 0, 4, 3, -2, -2};
        for (int what = 0; what <= 6; what++) is("by 0, " + what, z.chain(0, 3, true, what), by[what]);
        for (int what = 0; what <= 6; what++) is("by 0, fewest, " + what, z.chain(0, 3, false, what), by[what]);
        z.quarrel(0, 4);
        int[] byFive = {3, 4, 5, 4, 3, -2, -2};
        for (int what = 0; what <= 6; what++) is("by 5, " + what, z.chain(0, 3, true, what), byFive[what]);
    }

    private static void chainEnds() {
        DUE.sentence("to its HOLDER, be it the OWNER, a row of none; to the OWNER else there is none at all");
        for (boolean longest : new boolean[] {true, false}) {
            LentTools x = Scenes.ordinary();
            is("to the owner who holds it", x.chain(1, 1, longest, 0), 0);
            is("blunt there", x.chain(1, 1, longest, 1), 0);
            is("to its holder", x.chain(0, 2, longest, 0), 0);
            is("as sharp as it is", x.chain(0, 2, longest, 1), 5);
            for (int what = 2; what <= 6; what++) {
                is("no house, " + what, x.chain(0, 2, longest, what), -2);
                is("no house with its owner, " + what, x.chain(1, 1, longest, what), -2);
            }
            DUE.sentence("chain: -2: it can't come there");
            for (int what = 0; what <= 6; what++) {
                is("to its owner, whom its holder trusts, " + what, x.chain(0, 0, longest, what), -2);
            }
            LentTools y = Due.of("village 3 1;tool 0 0 0;trust 1 2");
            for (int what = 0; what <= 6; what++) is("no trust, " + what, y.chain(0, 2, longest, what), -2);
        }
    }

    private static void chainSharp() {
        DUE.sentence("chain 1: how SHARP it is there (0 at least)");
        LentTools x = Due.of("village 4 1;tool 0 0 0;trust 0 1;trust 1 2;trust 2 3;trust 1 3");
        x.lend(0, 1);
        for (int i = 0; i < 4; i++) x.day();
        is("lent 1, rust 3", x.chain(0, 1, true, 1), 0);
        is("lent 2, rust 3", x.chain(0, 3, false, 1), 0);
        is("lent 3, rust 3", x.chain(0, 3, true, 1), 0);
        x.undo();
        is("lent 3, rust 2", x.chain(0, 3, true, 1), 1);
        is("lent 2, rust 2", x.chain(0, 3, false, 1), 0);
    }

    // ---- which tools for which works

    private static void matchRefused() {
        DUE.sentence("match: -2: there is no such WORK; -3 for others, or without a VILLAGE");
        LentTools x = Scenes.ordinary();
        is("below", x.match(-1), -3);
        is("above", x.match(7), -3);
        for (int far : FAR) is("match " + far, x.match(far), -3);
        for (int what = 3; what <= 6; what++) is("no such work " + what, x.match(what), -2);
        is("the last work", x.match(2), -1);
        for (int what = -1; what <= 7; what++) is("no village " + what, Scenes.noVillage().match(what), -3);
        LentTools none = Due.of("village 2 1;tool 0 0 0;trust 0 1");
        is("no works: no pay", none.match(0), 0);
        for (int what = 1; what <= 6; what++) is("no works " + what, none.match(what), -2);
        LentTools tools = Due.of("village 2 1" + ";work 0 0 1 50".repeat(6));
        is("no tools: no pay", tools.match(0), 0);
        for (int what = 1; what <= 6; what++) is("no tools " + what, tools.match(what), -1);
        LentTools six = Due.of("village 2 1" + ";tool 0 0 0".repeat(6) + ";trust 0 1" + ";work 1 0 1 50".repeat(6));
        is("six for six", six.match(0), 300);
        for (int what = 1; what <= 6; what++) is("in order " + what, six.match(what), what - 1);
    }

    private static void matchNoneTwice() {
        DUE.sentence("for each WORK not done a TOOL of its KIND, or none (NONE), none twice");
        LentTools x = Due.of("village 2 1;tool 0 0 0;trust 0 1;work 1 0 1 5;work 1 0 1 6;work 1 0 1 6");
        is("one tool, one work", x.match(0), 6);
        is("none", x.match(1), -1);
        is("none ahead of tool 0", x.match(2), -1);
        is("tool 0", x.match(3), 0);
        x.lend(0, 1);
        x.does(2);
        is("done: none", x.match(3), -1);
        is("the next", x.match(2), 0);
        x.does(1);
        x.does(0);
        is("all done", x.match(0), 0);
        for (int what = 1; what <= 3; what++) is("done " + what, x.match(what), -1);
        LentTools y = Due.of("village 2 1;tool 0 1 0;trust 0 1;work 1 0 1 5;work 1 2 1 6");
        is("of another kind", y.match(0), 0);
        // Tool 1 can do the first work alone, so that the others have the tools 0 and 2.
        LentTools z = Due.of("village 3 1;tool 0 0 0;tool 1 0 0;tool 0 0 0;trust 0 1;trust 1 2;trust 2 1;work 2 0 1 9;"
                + "work 1 0 1 9;work 2 0 2 9");
        is("all three", z.match(0), 27);
        is("the only one for tool 1", z.match(1), 1);
        is("then tool 0", z.match(2), 0);
        is("then tool 2", z.match(3), 2);
    }

    private static void matchFirst() {
        DUE.sentence("of several the first (by WORKS; none ahead of TOOL 0)");
        LentTools x = Due.of("village 2 1;tool 0 0 0;tool 0 0 0;trust 0 1;work 1 0 1 5;work 1 0 1 5;work 1 0 1 5");
        is("two of three", x.match(0), 10);
        is("none first", x.match(1), -1);
        is("tool 0", x.match(2), 0);
        is("tool 1", x.match(3), 1);
        LentTools y = Due.of("village 2 1;tool 0 0 0;tool 0 0 0;tool 0 0 0;trust 0 1;work 1 0 1 5");
        is("the first tool", y.match(1), 0);
        LentTools z = Due.of("village 2 1;tool 0 0 9;tool 0 0 0;trust 0 1;work 1 0 1 5;work 1 0 9 5");
        is("tool 0 must do the sharper one", z.match(1), 1);
        is("it does", z.match(2), 0);
        // Edges 0, 2, 1, so that each work has one tool left when the others have theirs.
        LentTools w = Due.of("village 2 1;tool 0 0 0;tool 0 0 2;tool 0 0 1;trust 0 1;work 1 0 2 5;work 1 0 1 5;work 1 0 3 5");
        int[] due = {15, 2, 0, 1};
        for (int what = 0; what <= 3; what++) is("three " + what, w.match(what), due[what]);
    }

    private static void matchSharpEnough() {
        DUE.sentence("can come to that HOUSE (today, by some CHAIN) SHARP enough");
        LentTools x = Due.of("village 3 1;tool 0 0 3;trust 0 1;trust 0 2;trust 1 2;work 2 0 5 7");
        is("just sharp enough by the longest", x.match(0), 7);
        LentTools y = Due.of("village 3 1;tool 0 0 3;trust 0 1;trust 0 2;trust 1 2;work 2 0 6 7");
        is("one too blunt", y.match(0), 0);
        x.lend(0, 2);
        is("with its house already, too blunt", x.match(0), 0);
        is("not twice by one house", x.match(1), -1);
        // Blunt in its owner's hand; there by a chain it can't come again.
        LentTools z = Due.of("village 2 1;tool 0 0 9;trust 0 1;trust 1 0;work 0 0 1 7");
        is("of its owner", z.match(0), 0);
        z.lend(0, 1);
        is("nor when it is lent", z.match(0), 0);
        LentTools w = Due.of("village 2 1;tool 0 0 0;trust 0 1;work 1 0 1 7");
        w.lend(0, 1);
        is("with its house", w.match(0), 7);
        w.day();
        is("not late", w.match(0), 7);
        w.day();
        is("rust 1, today", w.match(0), 0);
    }

    private static void worth() {
        DUE.sentence("worth: NONE without that TOOL");
        LentTools x = Due.of("village 2 1;tool 0 0 0;tool 0 0 0;tool 0 1 0;trust 0 1;work 1 0 1 5;work 1 1 1 50");
        is("another could", x.worth(0), 0);
        is("the other could", x.worth(1), 0);
        is("the last tool", x.worth(2), 50);
        is("one more", x.worth(3), -1);
        is("one below", x.worth(-1), -1);
        for (int far : FAR) is("worth " + far, x.worth(far), -1);
        is("no village", Scenes.noVillage().worth(0), -1);
        is("no tools", Due.of("village 2 1").worth(0), -1);
        DUE.sentence("WORTH of a TOOL: by how much more PAY that is than without it");
        LentTools y = Due.of("village 2 1;tool 0 0 9;tool 0 0 0;trust 0 1;work 1 0 9 8;work 1 0 1 5");
        is("8 and 5 or 5", y.worth(0), 8);
        is("8 and 5 or 8", y.worth(1), 5);
    }

    private static void owner() {
        DUE.sentence("owner: NONE without these");
        LentTools x = Scenes.ordinary();
        is("tool below", x.owner(-1, 0), -1);
        is("tool above", x.owner(2, 0), -1);
        is("what below", x.owner(0, -1), -1);
        is("what above", x.owner(0, 2), -1);
        for (int far : FAR) {
            is("tool " + far, x.owner(far, 0), -1);
            is("what " + far, x.owner(0, far), -1);
        }
        is("no village", Scenes.noVillage().owner(0, 0), -1);

        DUE.sentence("OWNER: of several its own, else the least; its own: all stays as it is; how much");
        LentTools none = Due.of("village 6 1;tool 3 0 0");
        is("no works: its own", none.owner(0, 0), 3);
        is("nothing", none.owner(0, 1), 0);
        // 1 and 2 could lend it to the work's house, its own can't.
        LentTools y = Due.of("village 4 1;tool 3 0 0;trust 2 0;trust 1 0;work 0 0 1 9");
        is("the least", y.owner(0, 0), 1);
        is("9", y.owner(0, 1), 9);
        // Its own could, too.
        LentTools z = Due.of("village 4 1;tool 3 0 0;trust 2 0;trust 1 0;trust 3 0;work 0 0 1 9");
        is("its own", z.owner(0, 0), 3);
        is("9 by its own", z.owner(0, 1), 9);
        // Lent thrice it is sharper than by any gift.
        LentTools w = Due.of("village 3 1;tool 0 0 0;trust 0 1;trust 1 2;trust 2 1;work 1 0 3 4;work 2 0 1 3");
        w.lend(0, 1);
        w.lend(0, 2);
        w.lend(0, 1);
        is("all stays as it is", w.owner(0, 0), 0);
        is("4", w.owner(0, 1), 4);
        w.giveBack(0);
        is("anew: 3", w.owner(0, 1), 3);
        LentTools last = Due.of("village 6 1;tool 0 0 0;trust 5 4;work 4 0 1 9");
        is("the last house", last.owner(0, 0), 5);
        LentTools first = Due.of("village 6 1;tool 5 0 0;tool 4 0 0;trust 0 3;trust 1 3;work 3 0 1 9;work 3 0 1 8");
        is("the first house", first.owner(0, 0), 0);
        is("9 alone", first.owner(1, 1), 9);
        first.gift(1, 0);
        is("as it is now", first.owner(0, 1), 17);
        first.lend(1, 3);
        first.does(0);
        is("done works earn nothing", first.owner(0, 1), 8);
    }

    private static void breaksRefused() {
        DUE.sentence("breaks: -2: nobody TRUSTS anybody; NONE for others, or without a VILLAGE");
        LentTools x = Due.of("village 3 1;tool 0 0 0;work 1 0 1 1");
        for (int what = 0; what <= 2; what++) is("nobody " + what, x.breaks(what), -2);
        is("below", x.breaks(-1), -1);
        is("above", x.breaks(3), -1);
        for (int far : FAR) is("breaks " + far, x.breaks(far), -1);
        for (int what = -1; what <= 3; what++) is("no village " + what, Scenes.noVillage().breaks(what), -1);
        LentTools y = Due.of("village 2 1;trust 1 0");
        y.quarrel(0, 1);
        is("nobody any more", y.breaks(0), -2);
    }

    private static void broken(String village, int lesser, int greater, int less) {
        LentTools x = Due.of(village);
        is("lesser of " + village, x.breaks(0), lesser);
        is("greater of " + village, x.breaks(1), greater);
        is("less of " + village, x.breaks(2), less);
    }

    private static void breaks() {
        DUE.sentence("BREAK: one TRUSTS the other; makes MATCH earn least; of several the first (lesser, then greater)");
        broken("village 2 1;trust 0 1", 0, 1, 0);
        broken("village 2 1;trust 1 0", 0, 1, 0);
        broken("village 6 1;trust 5 4", 4, 5, 0);
        broken("village 6 1;trust 5 1;trust 4 1;trust 3 2", 1, 4, 0);
        broken("village 3 1;tool 2 0 0;trust 2 1;trust 0 1;work 1 0 1 50", 1, 2, 50);
        // Two that break as much: 0 and 1, 1 and 2; only 0 and 2 breaks none.
        broken("village 3 1;tool 0 0 0;trust 2 0;trust 1 2;trust 0 1;work 2 0 2 7", 0, 1, 7);
        // Both ways are broken: 1 and 2 by the tools of both.
        broken("village 3 1;tool 1 0 0;tool 2 1 0;trust 0 1;trust 1 2;trust 2 1;work 2 0 1 3;work 1 1 1 4", 1, 2, 7);
        // A chain around it that is long enough, too.
        broken("village 3 1;tool 0 0 0;trust 0 1;trust 0 2;trust 1 2;work 2 0 1 7", 0, 1, 0);
        broken("village 3 1;tool 0 0 0;trust 0 1;trust 0 2;trust 1 2;work 2 0 2 7", 0, 1, 7);
    }

    // ---- thanks

    private static void rings() {
        DUE.sentence("rings: 2 to 7 (-2: so many there are not); NONE for others, or without a VILLAGE");
        LentTools x = Scenes.ordinary();
        is("below", x.rings(-1), -1);
        is("above", x.rings(8), -1);
        for (int far : FAR) is("rings " + far, x.rings(far), -1);
        for (int what = -1; what <= 8; what++) is("no village " + what, Scenes.noVillage().rings(what), -1);

        DUE.sentence("RINGS: how long (0: there is none)");
        is("no house", x.rings(0), 0);
        is("0 long", x.rings(1), 0);
        for (int what = 2; what <= 7; what++) is("no row " + what, x.rings(what), -2);

        DUE.sentence("RINGS: how many HOUSES are in some ring of THANKS; the shortest; its first row");
        LentTools y = Due.of("village 6 1;thanks 5 4 1;thanks 4 3 1;thanks 3 2 1;thanks 2 1 1;thanks 1 0 1;thanks 0 5 1");
        int[] six = {6, 6, 0, 5, 4, 3, 2, 1};
        for (int what = 0; what <= 7; what++) is("of six " + what, y.rings(what), six[what]);
        // 0 to 1 to 2 to 3 to 4 to 0 and 1 to 0; 5 owes and is owed, but in no ring.
        LentTools z = Due.of("village 6 1;thanks 0 1 1;thanks 1 2 1;thanks 2 3 1;thanks 3 4 1;thanks 4 0 1;thanks 1 0 9;"
                + "thanks 5 0 1");
        int[] two = {5, 2, 0, 1, -2, -2, -2, -2};
        for (int what = 0; what <= 7; what++) is("of two " + what, z.rings(what), two[what]);
        LentTools w = Due.of("village 6 1;thanks 5 4 1;thanks 4 5 1;thanks 5 3 1;thanks 3 5 1;thanks 0 5 1");
        int[] later = {3, 2, 3, 5, -2, -2, -2, -2};
        for (int what = 0; what <= 7; what++) is("of several " + what, w.rings(what), later[what]);
        // Between two rings, in none itself.
        LentTools v = Due.of("village 5 1;thanks 0 1 1;thanks 1 0 1;thanks 1 2 1;thanks 2 3 1;thanks 3 4 1;thanks 4 3 1");
        is("between", v.rings(0), 4);
        v.ring();
        is("one less", v.rings(0), 2);
        v.ring();
        is("none any more", v.rings(0), 0);
        is("0 long then", v.rings(1), 0);
        is("no row then", v.rings(2), -2);
    }

    private static void debt() {
        DUE.sentence("debt: -1000 without that HOUSE");
        LentTools x = Due.of("village 6 1;thanks 0 1 9;thanks 0 2 9;thanks 0 3 9;thanks 0 4 9;thanks 0 5 9;thanks 5 0 2");
        is("owes", x.debt(0), 43);
        is("is owed", x.debt(1), -9);
        is("the last house", x.debt(5), -7);
        is("one more", x.debt(6), -1000);
        is("one below", x.debt(-1), -1000);
        for (int far : FAR) is("debt " + far, x.debt(far), -1000);
        is("no village", Scenes.noVillage().debt(0), -1000);
        is("none", Due.of("village 2 1").debt(1), 0);
        is("of two houses", Due.of("village 2 1").debt(2), -1000);
    }

    // ---- by which houses a tool has come

    private static void cameRefused() {
        DUE.sentence("came: NONE without these");
        LentTools x = Scenes.ordinary();
        is("tool below", x.came(-1, 0), -1);
        is("tool above", x.came(2, 0), -1);
        is("what below", x.came(0, -1), -1);
        is("what above", x.came(0, 3), -1);
        for (int far : FAR) {
            is("tool " + far, x.came(far, 0), -1);
            is("what " + far, x.came(0, far), -1);
        }
        is("no village", Scenes.noVillage().came(0, 0), -1);
    }

    private static void came() {
        DUE.sentence("CAME: with its OWNER: one row, of no HOUSES; -2: there is none, or it is with its OWNER");
        LentTools x = Due.of("village 6 1;tool 0 0 0" + ALL_TRUST);
        is("one row", x.came(0, 0), 1);
        is("nobody", x.came(0, 1), 0);
        is("with its owner", x.came(0, 2), -2);

        DUE.sentence("CAME: as many HOUSES as it is LENT, the last its HOLDER; who (the OWNER, too), as bits");
        // To 1, 2, 3, 4, 5: of the others one, two, .. stand ahead of the last in any order.
        int[] rows = {1, 4, 12, 24, 24};
        for (int lent = 1; lent <= 5; lent++) {
            x.lend(0, lent);
            is("rows of " + lent, x.came(0, 0), rows[lent - 1]);
            is("who, of " + lent, x.came(0, 1), lent == 1 ? 1 : 62 & ~(1 << lent));
            is("who by the first, of " + lent, x.came(0, 2), new int[] {0, 1, 2, 3, 4}[lent - 1]);
        }
        x.lend(0, 1);
        is("six houses there are not", x.came(0, 0), 0);
        is("nobody by six", x.came(0, 1), 0);
        is("none by six", x.came(0, 2), -2);
        for (int i = 0; i < 20; i++) x.lend(0, i % 2 == 0 ? 2 : 1);
        is("nor by 26", x.came(0, 0), 0);

        DUE.sentence("CAME: each HOUSE TRUSTED by the one ahead (the first by the OWNER), as it is now");
        LentTools y = Due.of("village 4 1;tool 0 0 0;trust 0 1;trust 1 2;trust 0 3;trust 3 2");
        y.lend(0, 1);
        y.lend(0, 2);
        is("by 1 or 3", y.came(0, 1), 10);
        is("two rows", y.came(0, 0), 2);
        is("1 by the first", y.came(0, 2), 1);
        y.quarrel(0, 1);
        is("the owner trusts 1 no more", y.came(0, 1), 8);
        is("3 by the first", y.came(0, 2), 3);
        y.quarrel(2, 3);
        is("no row", y.came(0, 0), 0);
        is("nobody", y.came(0, 1), 0);
        is("none", y.came(0, 2), -2);
        y.giveBack(0);
        is("with its owner one row again", y.came(0, 0), 1);

        DUE.sentence("CAME: none twice, none the OWNER");
        // Lent 3 to 2: 1 2 1 2 would be twice; by its owner it can't go again.
        LentTools z = Due.of("village 3 1;tool 0 0 0;trust 0 1;trust 1 2;trust 2 1;trust 1 0;trust 2 0");
        z.lend(0, 1);
        z.lend(0, 2);
        is("one row", z.came(0, 0), 1);
        z.lend(0, 1);
        is("none", z.came(0, 0), 0);
    }

    // ---- by rules and draws

    private static void doneRefused() {
        DUE.sentence("done: NONE without that RULE, or a VILLAGE");
        LentTools x = Scenes.ordinary();
        is("rule below", x.done(-1), -1);
        is("rule above", x.done(1), -1);
        for (int far : FAR) is("rule " + far, x.done(far), -1);
        is("no village", Scenes.noVillage().done(0), -1);
        is("the sixth rule", Scenes.sixRules().done(5), 1);
        is("a seventh", Scenes.sixRules().done(6), -1);
        LentTools none = Due.of("village 2 1");
        is("no rules, all done", none.done(0), -1);
    }

    private static void done() {
        DUE.sentence("DONE: all done already, or none told: DAY");
        LentTools x = Due.of("village 2 1");
        Due.rule(x, "lend 1");
        is("none told", x.done(0), 0);
        x.day();
        is("none told on day 1", x.done(0), 1);
        LentTools y = Due.of("village 2 1;tool 0 0 0;trust 0 1;work 1 0 1 1");
        Due.rule(y, "lend 1");
        y.lend(0, 1);
        y.does(0);
        y.day();
        y.day();
        is("done already", y.done(0), 2);

        DUE.sentence("DONE: 60 DAYS are looked at, this one first; -2: not in these");
        for (int now = 0; now <= 1; now++) {
            LentTools z = Due.of("village 2 20;tool 0 0 0;trust 0 1;work 1 0 1 1;work 1 0 1 1");
            for (int i = 0; i < now; i++) z.day();
            Due.rule(z, "lend 1");
            Due.rule(z, "lend 1 if day = 1");
            Due.rule(z, "lend 1 if day = " + (now + 59));
            Due.rule(z, "lend 1 if day = " + (now + 60));
            is("this day", z.done(0), now);
            is("the next or this", z.done(1), 1);
            is("the sixtieth", z.done(2), now + 59);
            is("the one behind", z.done(3), -2);
        }
        LentTools w = Due.of("village 2 20;tool 0 0 0;trust 0 1;work 1 0 1 1;work 1 0 2 1");
        Due.rule(w, "lend 1");
        is("one of two", w.done(0), -2);
    }

    private static void doneLate() {
        DUE.sentence("DONE: near DAY 999, which is 999 at most");
        LentTools x = Scenes.onDay(999);
        is("this day", x.done(1), 999);
        is("never", x.done(0), -2);
        LentTools y = Scenes.onDay(990);
        Due.rule(y, "lend 1 if day = 999");
        is("on day 999", y.done(2), 999);
        is("on day 990", y.done(1), 990);
    }

    private static void safe() {
        DUE.sentence("safe: NONE without that KIND, or a VILLAGE");
        LentTools x = Scenes.ordinary();
        is("below", x.safe(-1), -1);
        is("above", x.safe(5), -1);
        for (int far : FAR) is("safe " + far, x.safe(far), -1);
        for (int kind = -1; kind <= 5; kind++) is("no village " + kind, Scenes.noVillage().safe(kind), -1);
        is("a kind without tools", x.safe(4), 0);

        DUE.sentence("SAFE: whichever one other HOUSE they had a QUARREL with; whose OWNER they are not");
        is("all but the owner", Due.of("village 6 1;tool 0 4 0" + ALL_TRUST).safe(4), 62);
        is("by one house alone", Due.of("village 3 1;tool 0 0 0;trust 0 1;trust 1 2").safe(0), 0);
        is("by two", Due.of("village 3 1;tool 0 0 0;trust 0 1;trust 1 2;trust 0 2").safe(0), 4);
        is("of two houses", Due.of("village 2 1;tool 0 0 0;trust 0 1").safe(0), 0);
        is("of two owners each by the other", Due.of("village 3 1;tool 0 0 0;tool 1 0 0" + ";trust 0 1;trust 1 0"
                + ";trust 0 2;trust 2 0;trust 1 2;trust 2 1").safe(0), 7);
        is("a tool of their own is none", Due.of("village 3 1;tool 0 0 0;trust 0 1;trust 1 0;trust 0 2;trust 2 0;"
                + "trust 1 2;trust 2 1").safe(0), 6);

        DUE.sentence("SAFE: with them already: of no HOUSES");
        LentTools y = Due.of("village 3 1;tool 0 0 0;trust 0 1");
        is("not yet", y.safe(0), 0);
        y.lend(0, 1);
        is("with them", y.safe(0), 2);
        y.quarrel(0, 1);
        is("though nobody trusts anybody", y.safe(0), 2);
        y.giveBack(0);
        is("no more", y.safe(0), 0);
    }

    private static void harvestsRefused() {
        DUE.sentence("HARVESTS m times (1 to 10) n DAYS (1 to 60); NONE without these, or a VILLAGE");
        LentTools x = Scenes.ordinary();
        int[][] wrong = {{0, 1, 0}, {-1, 1, 0}, {11, 1, 0}, {1, 0, 0}, {1, -1, 0}, {1, 61, 0}, {1, 1, -1}, {1, 1, 2},
            {MIN_VALUE, 1, 0}, {1, MIN_VALUE, 0}, {1, 1, MIN_VALUE}, {MAX_VALUE, 1, 0}, {1, MAX_VALUE, 0},
            {1, 1, MAX_VALUE}};
        for (int[] w : wrong) is("harvests " + w[0] + " " + w[1] + " " + w[2], x.harvests(w[0], w[1], w[2]), -1);
        is("no village", Scenes.noVillage().harvests(1, 1, 0), -1);
        is("no village, loans", Scenes.noVillage().harvests(1, 1, 1), -1);
        DUE.is("the least", x.harvests(1, 1, 0) >= 0, true);
        DUE.is("the most", x.harvests(10, 60, 1) > 0, true);
        is("without tools", Due.of("village 2 1").harvests(10, 60, 0), 0);
        is("without tools, loans", Due.of("village 2 1").harvests(10, 60, 1), 0);
    }

    private static void harvests() {
        DUE.sentence("HARVESTS: to that HOUSE it is LENT, if it can be; the last number: it is GIVEN BACK; PAY; loans");
        // From x 0 on, the draws of two houses are 0 (the owner), 0, 1 (a loan), 1 (with it already), 0, 1, 1, 1, 2.
        String two = "village 2 20;tool 0 0 1;trust 0 1;trust 1 0;work 1 0 2 5";
        LentTools x = Due.of(two);
        is("not to its owner", x.harvests(1, 2, 1), 0);
        is("a loan", x.harvests(1, 3, 1), 1);
        is("nor from another house", x.harvests(1, 8, 1), 1);
        is("pay once", x.harvests(1, 60, 0), 5);
        is("ten times", x.harvests(10, 60, 0), 50);
        // Each time it begins anew from now on, x goes on: the draws 1 to 4, then 5 to 8.
        is("twice", x.harvests(2, 4, 1), 2);
        is("twice, pay", x.harvests(2, 4, 0), 10);
        // With its holder at first: only what comes behind the ninth draw is a loan.
        x.lend(0, 1);
        is("already there", x.harvests(1, 9, 1), 0);
        is("the work is there to be done", x.harvests(1, 1, 0), 5);
        x.does(0);
        is("what was earned ahead is none of it", x.harvests(10, 60, 0), 0);
        // Rust: the tool is blunt on the days behind.
        LentTools y = Due.of("village 2 1;tool 0 0 0;trust 0 1;trust 1 0;work 1 0 1 5");
        y.lend(0, 1);
        y.day();
        y.day();
        is("rusty until it is given back", y.harvests(1, 9, 0), 0);
        // From x 3 on the draws of three houses are 3, 3, 1, 0, 2: to 2 when it is two days out.
        for (int late = 1; late <= 2; late++) {
            LentTools days = Due.of("village 3 " + late + ";tool 0 0 0;trust 0 1;trust 1 2;work 2 0 2 6");
            days.seed(3);
            is("loans, late " + late, days.harvests(1, 5, 1), 2);
            is("each day it is out, late " + late, days.harvests(1, 5, 0), late == 1 ? 0 : 6);
        }

        DUE.sentence("HARVESTS: nothing stays; x as it was");
        LentTools z = Due.of(two);
        z.seed(MAX_VALUE);
        z.harvests(10, 60, 0);
        is("x", z.count(10), MAX_VALUE);
        is("day", z.count(5), 0);
        is("earned", z.count(6), 0);
        is("thanks", z.count(8), 0);
        is("the same again", z.harvests(10, 60, 1) - z.harvests(10, 60, 1), 0);
        LentTools late = Scenes.onDay(999);
        DUE.is("from day 999 on", late.harvests(1, 60, 0) >= 0, true);
        is("day 999 stays", late.count(5), 999);
    }

    private static void harvestDraws() {
        DUE.sentence("x becomes x * 1103515245 + 12345, of 2147483648 the rest; a DRAW is x / 65536");
        // 2147483647 becomes 1043980748, a draw of 15929: 1 mod 4, and 4 mod 5.
        LentTools x = Due.of("village 3 20;tool 0 0 0;trust 0 1;work 1 0 1 5");
        x.seed(MAX_VALUE);
        is("to 1", x.harvests(1, 1, 1), 1);
        is("pay", x.harvests(1, 1, 0), 5);
        LentTools y = Due.of("village 4 20;tool 0 0 0;trust 0 1;trust 0 3;work 1 0 1 5");
        y.seed(MAX_VALUE);
        is("the last number", y.harvests(1, 1, 1), 0);
        DUE.sentence("on each, by numbers, of each TOOL a DRAW mod one more than HOUSES there are");
        // Each of the six trusts each other one: any house but the owner and the holder is a loan.
        for (int seed : new int[] {0, 1, 2, 65535, 1 << 30, MAX_VALUE - 1, MAX_VALUE}) {
            for (int tools = 1; tools <= 6; tools++) {
                StringBuilder text = new StringBuilder("village 6 20");
                for (int tool = 0; tool < tools; tool++) text.append(";tool" + tool + " 0 0");
                LentTools z = Due.of(text + ALL_TRUST);
                z.seed(seed);
                is(tools + " tools from " + seed, z.harvests(2, 60, 1), loans(seed, 2, 60, tools));
            }
        }
    }

    /** The tool of each number is of the house of that number. */
    private static int loans(long x, int m, int n, int tools) {
        int loans = 0;
        for (int time = 0; time < m; time++) {
            long[] holders = {0, 1, 2, 3, 4, 5};
            for (int i = 0; i < n * tools; i++) {
                int tool = i % tools;
                x = (x * 1103515245L + 12345L) & 0x7fffffffL;
                long to = (x >> 16) % 7;
                if (to == 6) {
                    holders[tool] = tool;
                } else if (to != tool && to != holders[tool]) {
                    holders[tool] = to;
                    loans++;
                }
            }
        }
        return loans;
    }

    private static void count() {
        DUE.sentence("count: NONE for others");
        LentTools x = Scenes.ordinary();
        int[] due = {3, 2, 2, 2, 1, 1, 0, 0, 4, 3, 6, 11};
        for (int what = 0; what <= 11; what++) is("count " + what, x.count(what), due[what]);
        is("below", x.count(-1), -1);
        is("above", x.count(12), -1);
        for (int far : FAR) is("count " + far, x.count(far), -1);
        x.does(0);
        is("earned", x.count(6), 10);
        is("done, as bits", x.count(7), 1);
        LentTools y = Due.of("village 6 20" + ";tool 0 0 0".repeat(6) + ";work 0 0 1 1".repeat(6));
        int[] most = {6, 20, 6, 6};
        for (int what = 0; what <= 3; what++) is("most " + what, y.count(what), most[what]);
    }
}
