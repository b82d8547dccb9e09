import java.util.ArrayList;
import java.util.Arrays;
import java.util.List;

/**
 * The document a second time, in the plainest way that Java's library allows: whole rows are listed,
 * whole assignments tried, texts read by descent. The random runs compare it with LentTools.
 */
final class Oracle {
    static final class State {
        int houses;
        int late;
        int day;
        int pay;
        List<int[]> tools = new ArrayList<>(); // owner kind edge holder lent out
        List<int[]> works = new ArrayList<>(); // house kind sharp pay day
        boolean[][] trust = new boolean[6][6];
        int[][] thanks = new int[6][6];

        State copy() {
            State s = new State();
            s.houses = houses;
            s.late = late;
            s.day = day;
            s.pay = pay;
            for (int[] t : tools) s.tools.add(t.clone());
            for (int[] w : works) s.works.add(w.clone());
            for (int i = 0; i < 6; i++) {
                s.trust[i] = trust[i].clone();
                s.thanks[i] = thanks[i].clone();
            }
            return s;
        }

        int rust(int t) {
            int over = tools.get(t)[5] - late;
            return over > 0 ? over : 0;
        }

        int sharp(int t) {
            int[] x = tools.get(t);
            if (x[3] == x[0]) return 0;
            int s = x[2] + x[4] - rust(t);
            return s < 0 ? 0 : s;
        }

        boolean lendable(int t, int h) {
            int[] x = tools.get(t);
            return h != x[3] && h != x[0] && trust[x[3]][h];
        }

        void lend(int t, int h) {
            int[] x = tools.get(t);
            if (thanks[h][x[3]] < 99) thanks[h][x[3]]++;
            x[4]++;
            x[3] = h;
        }

        void home(int t) {
            int[] x = tools.get(t);
            x[3] = x[0];
            x[4] = 0;
            x[5] = 0;
        }

        boolean doable(int w) {
            int[] y = works.get(w);
            if (y[4] != -1) return false;
            for (int t = 0; t < tools.size(); t++) {
                int[] x = tools.get(t);
                if (x[1] == y[1] && x[3] == y[0] && sharp(t) >= y[2]) return true;
            }
            return false;
        }

        void work(int w) {
            works.get(w)[4] = day;
            pay += works.get(w)[3];
        }

        void workAll() {
            for (int w = 0; w < works.size(); w++) if (doable(w)) work(w);
        }

        void pass() {
            for (int[] x : tools) if (x[3] != x[0]) x[5]++;
            if (day < 999) day++;
        }

        boolean allDone() {
            for (int[] y : works) if (y[4] == -1) return false;
            return true;
        }
    }

    interface Sum {
        long of(State s, int t, int h);
    }

    interface Fact {
        boolean of(State s, int t, int h);
    }

    record Clause(Sum sum, Fact test) {
    }

    @SuppressWarnings("serial")
    static final class Fault extends RuntimeException {
        final int number;

        Fault(int place, int code) {
            super(null, null, false, false);
            number = 1 + 8 * place + code;
        }
    }

    private State s = new State();
    private final List<State> undo = new ArrayList<>();
    private final List<List<Clause>> rules = new ArrayList<>();
    private final State[] images = new State[4];
    private final int[] imageX = new int[4];
    private List<Integer> tape = new ArrayList<>();
    private int x;

    // ---- texts

    private List<Integer> text;
    private int at;
    private int counted;

    private int peek() {
        while (at < text.size() && text.get(at) == 32) at++;
        return at < text.size() ? text.get(at) : -1;
    }

    private String word() {
        peek();
        StringBuilder b = new StringBuilder();
        for (int i = at; i < text.size() && text.get(i) >= 'a' && text.get(i) <= 'z'; i++) {
            b.append((char) (int) text.get(i));
        }
        return b.toString();
    }

    private int number(int least, int most) {
        peek();
        int from = at;
        StringBuilder b = new StringBuilder();
        while (at < text.size() && text.get(at) >= '0' && text.get(at) <= '9') b.append((char) (int) text.get(at++));
        if (b.length() == 0) throw new Fault(from, 0);
        if (b.length() > 5) throw new Fault(from, 1);
        int n = Integer.parseInt(b.toString());
        if (n < least || n > most) throw new Fault(from, 1);
        return n;
    }

    private int unlike(int house, int houses) {
        peek();
        int from = at;
        int other = number(0, houses - 1);
        if (other == house) throw new Fault(from, 1);
        return other;
    }

    private State readVillage() {
        State v = new State();
        for (int clause = 1;; clause++) {
            String w = word();
            int from = at;
            if (!List.of("village", "tool", "trust", "work", "thanks").contains(w)) throw new Fault(from, 0);
            if (clause > 40 || w.equals("village") != (clause == 1)
                    || w.equals("tool") && v.tools.size() == 6 || w.equals("work") && v.works.size() == 6) {
                throw new Fault(from, 4);
            }
            at += w.length();
            int h = v.houses - 1;
            if (w.equals("village")) {
                v.houses = number(2, 6);
                v.late = number(1, 20);
            } else if (w.equals("tool")) {
                int o = number(0, h);
                v.tools.add(new int[] {o, number(0, 4), number(0, 9), o, 0, 0});
            } else if (w.equals("work")) {
                v.works.add(new int[] {number(0, h), number(0, 4), number(1, 20), number(1, 50), -1});
            } else {
                int a = number(0, h);
                int b = unlike(a, v.houses);
                if (w.equals("trust")) v.trust[a][b] = true;
                else v.thanks[a][b] = number(0, 9);
            }
            if (peek() == -1) return v;
            if (peek() != ';') throw new Fault(at, 0);
            at++;
        }
    }

    private List<Clause> readRule() {
        List<Clause> clauses = new ArrayList<>();
        counted = 0;
        while (true) {
            if (!word().equals("lend")) throw new Fault(at, 0);
            if (clauses.size() == 12) throw new Fault(at, 4);
            at += 4;
            Sum sum = readSum();
            Fact test = null;
            if (word().equals("if")) {
                at += 2;
                test = readTest(0);
            }
            clauses.add(new Clause(sum, test));
            if (peek() == -1) return clauses;
            if (peek() != ';') throw new Fault(at, 0);
            at++;
        }
    }

    private Fact readTest(int depth) {
        Fact f = readPart(depth);
        while (word().equals("or")) {
            at += 2;
            Fact a = f;
            Fact b = readPart(depth);
            f = (v, t, h) -> a.of(v, t, h) || b.of(v, t, h);
        }
        return f;
    }

    private Fact readPart(int depth) {
        Fact f = readFact(depth);
        while (word().equals("and")) {
            at += 3;
            Fact a = f;
            Fact b = readFact(depth);
            f = (v, t, h) -> a.of(v, t, h) && b.of(v, t, h);
        }
        return f;
    }

    private Fact readFact(int depth) {
        if (peek() == '[') {
            if (depth == 10) throw new Fault(at, 2);
            at++;
            Fact f = readTest(depth + 1);
            if (peek() != ']') throw new Fault(at, 0);
            at++;
            return f;
        }
        if (word().equals("not")) {
            if (depth == 10) throw new Fault(at, 2);
            at += 3;
            Fact f = readFact(depth + 1);
            return (v, t, h) -> !f.of(v, t, h);
        }
        Sum a = readSum();
        int sign = peek();
        if (sign != '<' && sign != '=' && sign != '>') throw new Fault(at, 0);
        if (counted++ == 60) throw new Fault(at, 3);
        at++;
        boolean also = sign == '=';
        if (!also && at < text.size() && text.get(at) == '=') {
            also = true;
            at++;
        }
        boolean equal = also;
        Sum b = readSum();
        return (v, t, h) -> {
            int c = Long.compare(a.of(v, t, h), b.of(v, t, h));
            return c == 0 ? equal : sign == '<' ? c < 0 : sign == '>' && c > 0;
        };
    }

    private Sum readSum() {
        Sum f = readTerm();
        while (peek() == '+' || peek() == '-') {
            boolean plus = text.get(at++) == '+';
            Sum a = f;
            Sum b = readTerm();
            f = (v, t, h) -> plus ? a.of(v, t, h) + b.of(v, t, h) : a.of(v, t, h) - b.of(v, t, h);
        }
        return f;
    }

    private Sum readTerm() {
        Sum f = readValue();
        while (peek() == '*' || peek() == '/' || peek() == '%') {
            int sign = text.get(at++);
            Sum a = f;
            Sum b = readValue();
            f = (v, t, h) -> {
                long l = a.of(v, t, h);
                long r = b.of(v, t, h);
                if (sign == '*') return l * r;
                if (r == 0) return 0;
                return sign == '/' ? l / r : l % r;
            };
        }
        return f;
    }

    private Sum readValue() {
        int c = peek();
        int from = at;
        Sum f;
        if (c >= '0' && c <= '9') {
            int n = number(0, 99999);
            f = (v, t, h) -> n;
        } else {
            String w = word();
            f = wordValue(w);
            if (f == null) throw new Fault(from, 0);
            at += w.length();
        }
        if (counted++ == 60) throw new Fault(from, 3);
        return f;
    }

    private static Sum wordValue(String w) {
        switch (w) {
            case "tool": return (v, t, h) -> t;
            case "kind": return (v, t, h) -> v.tools.get(t)[1];
            case "owner": return (v, t, h) -> v.tools.get(t)[0];
            case "holder": return (v, t, h) -> v.tools.get(t)[3];
            case "to": return (v, t, h) -> h;
            case "lent": return (v, t, h) -> v.tools.get(t)[4];
            case "sharp": return (v, t, h) -> {
                State c = v.copy();
                c.lend(t, h);
                return c.sharp(t);
            };
            case "out": return (v, t, h) -> v.tools.get(t)[5];
            case "day": return (v, t, h) -> v.day;
            case "need": return (v, t, h) -> v.works.stream()
                    .filter(y -> y[4] == -1 && y[0] == h && y[1] == v.tools.get(t)[1]).mapToInt(y -> y[2]).max().orElse(0);
            case "pay": return (v, t, h) -> v.works.stream()
                    .filter(y -> y[4] == -1 && y[0] == h && y[1] == v.tools.get(t)[1]).mapToInt(y -> y[3]).sum();
            case "owes": return (v, t, h) -> v.thanks[h][v.tools.get(t)[3]];
            case "trusts": return (v, t, h) -> v.trust[h][v.tools.get(t)[3]] ? 1 : 0;
            default: return null;
        }
    }

    // ---- the calls

    int feed(int a, int b, int c, int d, int e) {
        if (tape.size() + 20 > 400) return -1;
        for (int n : new int[] {a, b, c, d, e}) {
            tape.add(n >>> 24);
            tape.add(n >>> 16 & 255);
            tape.add(n >>> 8 & 255);
            tape.add(n & 255);
        }
        return tape.size();
    }

    int end(int n) {
        if (n < 0 || n > tape.size()) return -1;
        tape = new ArrayList<>(tape.subList(0, n));
        return n;
    }

    private void take() {
        text = tape;
        tape = new ArrayList<>();
        at = 0;
    }

    int village() {
        take();
        try {
            s = readVillage();
            undo.clear();
            return s.tools.size();
        } catch (Fault f) {
            return -2 - f.number;
        }
    }

    int rule() {
        if (rules.size() == 6) return -1;
        take();
        try {
            rules.add(readRule());
            return rules.size() - 1;
        } catch (Fault f) {
            return -2 - f.number;
        }
    }

    private boolean isTool(int t) {
        return t >= 0 && t < s.tools.size();
    }

    private boolean isHouse(int h) {
        return h >= 0 && h < s.houses;
    }

    int tool(int t, int what) {
        if (!isTool(t) || what < 0 || what > 7) return -1;
        return what == 6 ? s.sharp(t) : what == 7 ? s.rust(t) : s.tools.get(t)[what];
    }

    int work(int w, int what) {
        if (w < 0 || w >= s.works.size() || what < 0 || what > 5) return -2;
        return what == 5 ? (s.doable(w) ? 1 : 0) : s.works.get(w)[what];
    }

    int house(int a, int b, int what) {
        if (!isHouse(a) || !isHouse(b) || a == b || what < 0 || what > 1) return -1;
        return what == 1 ? s.thanks[a][b] : s.trust[a][b] ? 1 : 0;
    }

    private void act() {
        undo.add(s.copy());
        if (undo.size() > 20) undo.remove(0);
    }

    int lend(int t, int h) {
        if (!isTool(t) || !isHouse(h) || !s.lendable(t, h)) return -1;
        act();
        s.lend(t, h);
        return s.sharp(t);
    }

    int giveBack(int t) {
        if (!isTool(t) || s.tools.get(t)[3] == s.tools.get(t)[0]) return -1;
        act();
        s.home(t);
        return s.tools.get(t)[0];
    }

    int does(int w) {
        if (w < 0 || w >= s.works.size() || !s.doable(w)) return -1;
        act();
        s.work(w);
        return s.works.get(w)[3];
    }

    boolean quarrel(int a, int b) {
        if (!isHouse(a) || !isHouse(b) || a == b || !s.trust[a][b] && !s.trust[b][a]) return false;
        act();
        s.trust[a][b] = false;
        s.trust[b][a] = false;
        return true;
    }

    /** All rings, each from its least house on. */
    private List<List<Integer>> allRings() {
        List<List<Integer>> all = new ArrayList<>();
        for (int h = 0; h < s.houses; h++) ringsFrom(new ArrayList<>(List.of(h)), all);
        return all;
    }

    private void ringsFrom(List<Integer> row, List<List<Integer>> all) {
        int last = row.get(row.size() - 1);
        if (row.size() > 1 && s.thanks[last][row.get(0)] > 0) all.add(new ArrayList<>(row));
        for (int h = row.get(0) + 1; h < s.houses; h++) {
            if (s.thanks[last][h] > 0 && !row.contains(h)) {
                row.add(h);
                ringsFrom(row, all);
                row.remove(row.size() - 1);
            }
        }
    }

    private static int compareRows(List<Integer> a, List<Integer> b) {
        for (int i = 0; i < Math.min(a.size(), b.size()); i++) {
            if (!a.get(i).equals(b.get(i))) return a.get(i) - b.get(i);
        }
        return a.size() - b.size();
    }

    private List<Integer> firstRing() {
        List<Integer> best = List.of();
        for (List<Integer> r : allRings()) {
            if (best.isEmpty() || r.size() < best.size() || r.size() == best.size() && compareRows(r, best) < 0) best = r;
        }
        return best;
    }

    int ring() {
        List<Integer> r = firstRing();
        if (r.isEmpty()) return -1;
        act();
        for (int i = 0; i < r.size(); i++) s.thanks[r.get(i)][r.get((i + 1) % r.size())]--;
        return r.size();
    }

    int gift(int t, int h) {
        if (!isTool(t) || !isHouse(h) || s.tools.get(t)[0] == h) return -1;
        act();
        int was = s.tools.get(t)[0];
        s.tools.get(t)[0] = h;
        s.home(t);
        return was;
    }

    int day() {
        if (s.houses == 0 || s.day == 999) return -1;
        act();
        s.pass();
        int n = 0;
        for (int[] t : s.tools) if (t[5] > s.late) n++;
        return n;
    }

    int undo() {
        if (undo.isEmpty()) return -1;
        s = undo.remove(undo.size() - 1);
        return undo.size();
    }

    private static void byRule(State v, List<Clause> rule) {
        for (int t = 0; t < v.tools.size(); t++) {
            int best = -1;
            long most = 0;
            for (int h = 0; h < v.houses; h++) {
                if (!v.lendable(t, h)) continue;
                long sum = 0;
                for (Clause c : rule) {
                    if (c.test == null || c.test.of(v, t, h)) {
                        sum = c.sum.of(v, t, h);
                        break;
                    }
                }
                if (sum > most) {
                    most = sum;
                    best = h;
                }
            }
            if (best >= 0) v.lend(t, best);
        }
        v.workAll();
    }

    int run(int rule, int n) {
        if (s.houses == 0 || rule < 0 || rule >= rules.size() || n < 1 || n > 60 || s.day + n > 999) return -1;
        int before = s.pay;
        for (int i = 0; i < n; i++) {
            byRule(s, rules.get(rule));
            s.pass();
        }
        undo.clear();
        return s.pay - before;
    }

    /** All chains of a tool, in order; to its holder the empty one. */
    private static List<List<Integer>> allChains(State v, int t, int to) {
        List<List<Integer>> all = new ArrayList<>();
        int[] x = v.tools.get(t);
        rowsOn(v, x[3], List.of(x[3], x[0]), new ArrayList<>(), to, all);
        return all;
    }

    private static void rowsOn(State v, int from, List<Integer> barred, List<Integer> row, int to, List<List<Integer>> all) {
        int last = row.isEmpty() ? from : row.get(row.size() - 1);
        if (last == to) all.add(new ArrayList<>(row));
        for (int h = 0; h < v.houses; h++) {
            if (v.trust[last][h] && !barred.contains(h) && !row.contains(h)) {
                row.add(h);
                rowsOn(v, from, barred, row, to, all);
                row.remove(row.size() - 1);
            }
        }
    }

    private static int sharpBy(State v, int t, List<Integer> row) {
        State c = v.copy();
        for (int h : row) c.lend(t, h);
        return c.sharp(t);
    }

    int chain(int t, int h, boolean longest, int what) {
        if (!isTool(t) || !isHouse(h) || what < 0 || what > 6) return -3;
        List<Integer> best = null;
        for (List<Integer> r : allChains(s, t, h)) {
            if (best == null || (longest ? r.size() > best.size() : r.size() < best.size())
                    || r.size() == best.size() && compareRows(r, best) < 0) best = r;
        }
        if (best == null) return -2;
        if (what == 0) return best.size();
        if (what == 1) return sharpBy(s, t, best);
        return what - 2 < best.size() ? best.get(what - 2) : -2;
    }

    private static int bestPay;
    private static int[] bestRow;

    private static int matched(State v, int without) {
        boolean[][] able = new boolean[6][6];
        for (int w = 0; w < v.works.size(); w++) {
            int[] y = v.works.get(w);
            for (int t = 0; t < v.tools.size(); t++) {
                if (t == without || y[4] != -1 || y[1] != v.tools.get(t)[1]) continue;
                for (List<Integer> r : allChains(v, t, y[0])) able[w][t] |= sharpBy(v, t, r) >= y[2];
            }
        }
        bestPay = -1;
        tryAll(v, able, new int[v.works.size()], 0, 0);
        return bestPay;
    }

    private static void tryAll(State v, boolean[][] able, int[] row, int w, int pay) {
        if (w == row.length) {
            if (pay > bestPay) {
                bestPay = pay;
                bestRow = row.clone();
            }
            return;
        }
        row[w] = -1;
        tryAll(v, able, row, w + 1, pay);
        for (int t = 0; t < v.tools.size(); t++) {
            boolean used = false;
            for (int i = 0; i < w; i++) used |= row[i] == t;
            if (able[w][t] && !used) {
                row[w] = t;
                tryAll(v, able, row, w + 1, pay + v.works.get(w)[3]);
            }
        }
    }

    int match(int what) {
        if (s.houses == 0 || what < 0 || what > 6) return -3;
        int pay = matched(s, -1);
        if (what == 0) return pay;
        return what > s.works.size() ? -2 : bestRow[what - 1];
    }

    int worth(int t) {
        return isTool(t) ? matched(s, -1) - matched(s, t) : -1;
    }

    int owner(int t, int what) {
        if (!isTool(t) || what < 0 || what > 1) return -1;
        int own = s.tools.get(t)[0];
        int[] pays = new int[s.houses];
        for (int h = 0; h < s.houses; h++) {
            State c = s.copy();
            if (h != own) {
                c.tools.get(t)[0] = h;
                c.home(t);
            }
            pays[h] = matched(c, -1);
        }
        int most = Arrays.stream(pays).max().getAsInt();
        int best = own;
        if (pays[own] != most) {
            best = 0;
            while (pays[best] != most) best++;
        }
        return what == 0 ? best : most;
    }

    int breaks(int what) {
        if (s.houses == 0 || what < 0 || what > 2) return -1;
        int[] best = null;
        for (int a = 0; a < s.houses; a++) {
            for (int b = a + 1; b < s.houses; b++) {
                if (!s.trust[a][b] && !s.trust[b][a]) continue;
                State c = s.copy();
                c.trust[a][b] = false;
                c.trust[b][a] = false;
                int less = matched(s, -1) - matched(c, -1);
                if (best == null || less > best[2]) best = new int[] {a, b, less};
            }
        }
        return best == null ? -2 : best[what];
    }

    int rings(int what) {
        if (s.houses == 0 || what < 0 || what > 7) return -1;
        if (what == 0) return (int) allRings().stream().flatMap(List::stream).distinct().count();
        List<Integer> r = firstRing();
        if (what == 1) return r.size();
        return what - 2 < r.size() ? r.get(what - 2) : -2;
    }

    int debt(int h) {
        if (!isHouse(h)) return -1000;
        int d = 0;
        for (int o = 0; o < 6; o++) d += s.thanks[h][o] - s.thanks[o][h];
        return d;
    }

    int came(int t, int what) {
        if (!isTool(t) || what < 0 || what > 2) return -1;
        int[] x = s.tools.get(t);
        List<List<Integer>> all = new ArrayList<>();
        rowsOn(s, x[0], List.of(x[0]), new ArrayList<>(), x[3], all);
        all.removeIf(r -> r.size() != x[4]);
        if (what == 0) return all.size();
        int bits = 0;
        int first = -2;
        for (List<Integer> r : all) {
            if (r.isEmpty()) continue;
            int who = r.size() == 1 ? x[0] : r.get(r.size() - 2);
            if (bits == 0) first = who;
            bits |= 1 << who;
        }
        return what == 1 ? bits : first;
    }

    int done(int rule) {
        if (s.houses == 0 || rule < 0 || rule >= rules.size()) return -1;
        if (s.allDone()) return s.day;
        State c = s.copy();
        for (int i = 0; i < 60; i++) {
            byRule(c, rules.get(rule));
            if (c.allDone()) return c.day;
            c.pass();
        }
        return -2;
    }

    int safe(int kind) {
        if (s.houses == 0 || kind < 0 || kind > 4) return -1;
        int bits = 0;
        for (int h = 0; h < s.houses; h++) {
            boolean safe = true;
            for (int o = 0; o < s.houses; o++) {
                if (o == h) continue;
                State c = s.copy();
                c.trust[h][o] = false;
                c.trust[o][h] = false;
                boolean gets = false;
                for (int t = 0; t < c.tools.size(); t++) {
                    gets |= c.tools.get(t)[1] == kind && c.tools.get(t)[0] != h && !allChains(c, t, h).isEmpty();
                }
                safe &= gets;
            }
            if (safe) bits |= 1 << h;
        }
        return bits;
    }

    int seed(int n) {
        if (n < 0) return -1;
        int was = x;
        x = n;
        return was;
    }

    int harvests(int m, int n, int what) {
        if (s.houses == 0 || m < 1 || m > 10 || n < 1 || n > 60 || what < 0 || what > 1) return -1;
        long y = x;
        int pay = 0;
        int loans = 0;
        for (int i = 0; i < m; i++) {
            State c = s.copy();
            for (int j = 0; j < n; j++) {
                for (int t = 0; t < c.tools.size(); t++) {
                    y = Math.floorMod(y * 1103515245L + 12345L, 1L << 31);
                    int h = (int) (y / 65536 % (c.houses + 1));
                    if (h == c.houses) {
                        c.home(t);
                    } else if (c.lendable(t, h)) {
                        c.lend(t, h);
                        loans++;
                    }
                }
                c.workAll();
                c.pass();
            }
            pay += c.pay - s.pay;
        }
        return what == 0 ? pay : loans;
    }

    int count(int what) {
        int bits = 0;
        for (int w = 0; w < s.works.size(); w++) if (s.works.get(w)[4] != -1) bits |= 1 << w;
        int sum = 0;
        for (int[] row : s.thanks) for (int n : row) sum += n;
        int[] all = {s.houses, s.late, s.tools.size(), s.works.size(), rules.size(), s.day, s.pay, bits, sum,
            undo.size(), x, tape.size()};
        return what < 0 || what > 11 ? -1 : all[what];
    }

    int image(int k) {
        if (k < 0 || k > 3) return -1;
        images[k] = s.copy();
        imageX[k] = x;
        return s.day;
    }

    int back(int k) {
        if (k < 0 || k > 3 || images[k] == null) return -1;
        s = images[k].copy();
        x = imageX[k];
        undo.clear();
        return s.day;
    }
}
