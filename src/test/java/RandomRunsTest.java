import java.util.Random;

/** Runs of calls drawn from fixed seeds, each answer compared with the Oracle's. */
public final class RandomRunsTest {
    private static final String[] WORDS = {"tool", "kind", "owner", "holder", "to", "lent", "sharp", "out", "day",
        "need", "pay", "owes", "trusts"};
    private static final String[] SIGNS = {"<", "<=", "=", ">=", ">"};
    private static final String STRAY = " ;[]<=>+-*/%0123456789abdefilnorstuvwz\0X\u00e9";

    private final Due due;
    private final Random random;
    private final long seed;
    private final LentTools x = new LentTools();
    private final Oracle y = new Oracle();
    private int made;

    private RandomRunsTest(Due due, long seed) {
        this.due = due;
        this.seed = seed;
        this.random = new Random(seed);
    }

    public static void main(String[] args) {
        Due due = new Due();
        int runs = args.length > 0 ? Integer.parseInt(args[0]) : 1500;
        for (long seed = 1; seed <= runs; seed++) {
            new RandomRunsTest(due, seed).run();
        }
        due.close();
    }

    private int below(int n) {
        return random.nextInt(n);
    }

    private String blanks() {
        return below(6) == 0 ? " ".repeat(below(3)) : "";
    }

    // ---- texts

    private String villageText() {
        int houses = 2 + below(5);
        StringBuilder b = new StringBuilder(blanks() + "village " + houses + " " + (1 + below(below(3) == 0 ? 20 : 4)));
        int kinds = 1 + below(3);
        int dense = below(10);
        for (int i = below(7); i > 0; i--) {
            b.append(";tool " + below(houses) + " " + below(kinds) + " " + below(10));
        }
        for (int i = below(7); i > 0; i--) {
            b.append(";work " + below(houses) + " " + below(kinds) + " " + (1 + below(below(2) == 0 ? 20 : 9)) + " "
                    + (1 + below(below(2) == 0 ? 50 : 5)));
        }
        for (int one = 0; one < houses; one++) {
            for (int other = 0; other < houses; other++) {
                if (one != other && below(10) < dense) {
                    b.append(blanks() + ";" + blanks() + "trust " + one + " " + other);
                }
            }
        }
        for (int i = below(7); i > 0; i--) {
            int one = below(houses);
            b.append(";thanks " + one + " " + (one + 1 + below(houses - 1)) % houses + " " + below(10) + blanks());
        }
        String text = b.toString();
        // Too many clauses or bytes are cut at a clause mostly.
        while (text.length() > 400 || text.chars().filter(c -> c == ';').count() > 39 + below(2)) {
            text = text.substring(0, text.lastIndexOf(';'));
        }
        return text;
    }

    private String value() {
        switch (below(8)) {
            case 0: return "" + below(100000);
            case 1:
            case 2: return "" + below(10);
            default: return WORDS[below(WORDS.length)];
        }
    }

    private String sum() {
        StringBuilder b = new StringBuilder(value());
        for (int i = below(4); i > 0; i--) {
            b.append(blanks() + "+-*/%+*".charAt(below(7)) + blanks() + value());
        }
        return b.toString();
    }

    private String fact(int depth) {
        int c = depth > 11 ? 9 : below(depth > 3 && below(3) > 0 ? 10 : 5);
        if (c == 0) return "not " + fact(depth + 1);
        if (c == 1) return "[" + blanks() + test(depth + 1) + "]";
        return sum() + blanks() + SIGNS[below(5)] + blanks() + sum();
    }

    private String test(int depth) {
        StringBuilder b = new StringBuilder(fact(depth));
        for (int i = below(5) - 2; i > 0; i--) {
            b.append(below(2) == 0 ? " and " : " or ").append(fact(depth));
        }
        return b.toString();
    }

    private String ruleText() {
        StringBuilder b = new StringBuilder();
        for (int i = 1 + below(below(10) == 0 ? 14 : 4); i > 0; i--) {
            b.append(b.length() == 0 ? "" : ";").append("lend ").append(sum());
            if (below(3) > 0) b.append(" if ").append(test(0));
        }
        return b.substring(0, Math.min(400, b.length()));
    }

    private String spoilt(String text) {
        StringBuilder b = new StringBuilder(text);
        for (int i = below(3); i >= 0 && b.length() > 0; i--) {
            int at = below(b.length());
            char stray = STRAY.charAt(below(STRAY.length()));
            switch (below(4)) {
                case 0: b.deleteCharAt(at); break;
                case 1: b.insert(at, stray); break;
                case 2: b.setCharAt(at, stray); break;
                default: b.setLength(at); break;
            }
        }
        return b.substring(0, Math.min(400, b.length()));
    }

    /** Deep and long rules, at the edges of what a text may hold. */
    private String largeRule() {
        StringBuilder b = new StringBuilder("lend 1 if ");
        if (below(2) == 0) {
            int deep = 9 + below(4);
            int closing = 0;
            for (int i = 0; i < deep; i++) {
                if (below(2) == 0) {
                    b.append("not ");
                } else {
                    b.append("[");
                    closing++;
                }
            }
            b.append("day=1").append("]".repeat(closing));
            if (below(2) == 0) b.append(" and not day=2");
        } else {
            int many = 56 + below(6);
            b.append("to");
            int count = 2;
            boolean left = true;
            while (count < many) {
                if (!left && below(3) == 0) {
                    b.append(" or 1");
                    left = true;
                } else if (left && below(2) == 0) {
                    b.append("<1");
                    left = false;
                    count++;
                } else {
                    b.append("+1");
                }
                count++;
            }
            if (left) b.append("=1");
            b.append(";lend 1;lend 1".repeat(below(2)));
        }
        return b.toString();
    }

    private void tell(String text) {
        int at = y.count(11);
        if (at > 0 && below(4) > 0) {
            both("end(0)", x.end(0), y.end(0));
            at = 0;
        }
        for (int from = 0; from < text.length(); from += 20) {
            int[] n = Due.numbers(text, from);
            both("feed", x.feed(n[0], n[1], n[2], n[3], n[4]), y.feed(n[0], n[1], n[2], n[3], n[4]));
        }
        int n = at + text.length();
        both("end(" + n + ")", x.end(n), y.end(n));
    }

    private void tellVillage() {
        String text = villageText();
        if (below(4) == 0) text = spoilt(text);
        tell(text);
        both("village() of " + text, x.village(), y.village());
    }

    private void tellRule() {
        String text = below(6) == 0 ? largeRule() : ruleText();
        if (below(4) == 0) text = spoilt(text);
        tell(text);
        both("rule() of " + text, x.rule(), y.rule());
    }

    // ---- calls

    private void both(String call, long got, long want) {
        made++;
        due.is("seed " + seed + ": " + call, got, want);
    }

    private int some(int n) {
        return below(12) == 0 ? new int[] {-1, n, n + 1, Integer.MAX_VALUE, Integer.MIN_VALUE}[below(5)] : below(n);
    }

    private int house() {
        return some(Math.max(2, y.count(0)));
    }

    private int tool() {
        return some(Math.max(1, y.count(2)));
    }

    private int work() {
        return some(Math.max(1, y.count(3)));
    }

    private void run() {
        int calls = 60 + below(400);
        boolean late = below(10) == 0;
        // No more than 512 calls: what is left at the end are a text and the counts.
        for (int i = 0; i < calls && made < 470; i++) {
            if (i == 6 && late) runToTheLastDays();
            int kind = below(100);
            if (i < 6 || kind < 4) {
                if (i == 0 && below(8) > 0 || i > 0 && below(3) == 0) tellVillage();
                else tellRule();
            } else if (kind < 45) {
                act();
            } else {
                ask();
            }
        }
        for (int what = -1; what <= 12; what++) both("count(" + what + ")", x.count(what), y.count(what));
    }

    private void runToTheLastDays() {
        for (int i = 0; i < 16; i++) both("run(0, 60)", x.run(0, 60), y.run(0, 60));
        int n = 20 + below(20);
        both("run(0, " + n + ")", x.run(0, n), y.run(0, n));
    }

    private void act() {
        int t = tool();
        int h = house();
        int o = house();
        int w = work();
        int k = some(4);
        switch (below(24)) {
            case 0: both("giveBack(" + t + ")", x.giveBack(t), y.giveBack(t)); break;
            case 1:
            case 2: both("does(" + w + ")", x.does(w), y.does(w)); break;
            case 3: if (below(2) == 0) both("quarrel(" + h + ", " + o + ")", x.quarrel(h, o) ? 1 : 0, y.quarrel(h, o) ? 1 : 0); break;
            case 4: both("ring()", x.ring(), y.ring()); break;
            case 5: both("gift(" + t + ", " + h + ")", x.gift(t, h), y.gift(t, h)); break;
            case 6:
            case 7: both("day()", x.day(), y.day()); break;
            case 8:
            case 9: both("undo()", x.undo(), y.undo()); break;
            case 10: {
                int r = some(Math.max(1, y.count(4)));
                int n = below(2) == 0 ? 1 + below(5) : below(63) - 1;
                both("run(" + r + ", " + n + ")", x.run(r, n), y.run(r, n));
                break;
            }
            case 11: {
                int n = below(5) == 0 ? -1 - below(9) : below(3) == 0 ? Integer.MAX_VALUE - below(3) : random.nextInt() >>> 1;
                both("seed(" + n + ")", x.seed(n), y.seed(n));
                break;
            }
            case 12: both("image(" + k + ")", x.image(k), y.image(k)); break;
            case 13: both("back(" + k + ")", x.back(k), y.back(k)); break;
            case 14: {
                int n = random.nextInt();
                both("feed", x.feed(n, n, n, n, n), y.feed(n, n, n, n, n));
                both("end(" + w + ")", x.end(w), y.end(w));
                break;
            }
            default: both("lend(" + t + ", " + h + ")", x.lend(t, h), y.lend(t, h)); break;
        }
    }

    private void ask() {
        int t = tool();
        int h = house();
        int o = house();
        int w = work();
        switch (below(18)) {
            case 0:
            case 1: { int a = some(8); both("tool(" + t + ", " + a + ")", x.tool(t, a), y.tool(t, a)); break; }
            case 2: { int a = some(6); both("work(" + w + ", " + a + ")", x.work(w, a), y.work(w, a)); break; }
            case 3: { int a = some(2); both("house(" + h + ", " + o + ", " + a + ")", x.house(h, o, a), y.house(h, o, a)); break; }
            case 4:
            case 5:
            case 6: {
                int a = some(7);
                boolean l = below(2) == 0;
                both("chain(" + t + ", " + h + ", " + l + ", " + a + ")", x.chain(t, h, l, a), y.chain(t, h, l, a));
                break;
            }
            case 7: { int a = some(7); both("match(" + a + ")", x.match(a), y.match(a)); break; }
            case 8: both("worth(" + t + ")", x.worth(t), y.worth(t)); break;
            case 9: { int a = some(2); if (below(3) == 0) both("owner(" + t + ", " + a + ")", x.owner(t, a), y.owner(t, a)); break; }
            case 10: { int a = some(3); if (below(3) == 0) both("breaks(" + a + ")", x.breaks(a), y.breaks(a)); break; }
            case 11: { int a = some(8); both("rings(" + a + ")", x.rings(a), y.rings(a)); break; }
            case 12: both("debt(" + h + ")", x.debt(h), y.debt(h)); break;
            case 13: { int a = some(3); both("came(" + t + ", " + a + ")", x.came(t, a), y.came(t, a)); break; }
            case 14: { int r = some(Math.max(1, y.count(4))); both("done(" + r + ")", x.done(r), y.done(r)); break; }
            case 15: { int a = some(5); both("safe(" + a + ")", x.safe(a), y.safe(a)); break; }
            case 16: {
                int m = some(11);
                int n = some(61);
                int a = some(2);
                both("harvests(" + m + ", " + n + ", " + a + ")", x.harvests(m, n, a), y.harvests(m, n, a));
                break;
            }
            default: { int a = some(12); both("count(" + a + ")", x.count(a), y.count(a)); break; }
        }
    }
}
