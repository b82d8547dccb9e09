import java.util.Arrays;

/**
 * A village whose tools cut only when lent. DOC.md tells what each call answers; the order of the
 * public methods here is that of its promises.
 */
public final class LentTools {
    public static final int NONE = -1;

    private static final int TAPE_MOST = 400;
    private static final int FEED_BYTES = 20;
    private static final int RULES_MOST = 6;
    private static final int IMAGES_MOST = 4;
    private static final int DAYS_MOST = 60;
    private static final int TIMES_MOST = 10;
    private static final int LAST_DAY = 999;
    private static final int KINDS = 5;

    private final int[] tape = new int[TAPE_MOST];
    private int tapeLength;
    private final Text text = new Text();
    private final VillageReader villageReader = new VillageReader();
    private final RuleReader ruleReader = new RuleReader();
    private final Village present = new Village();
    private final Village trial = new Village();
    private final Rule[] rules = new Rule[RULES_MOST];
    private int ruleCount;
    private final History history = new History();
    private final int[][] imageCells = new int[IMAGES_MOST][Village.SIZE];
    private final int[] imageSeeds = new int[IMAGES_MOST];
    private final boolean[] imageMade = new boolean[IMAGES_MOST];
    private final Draws draws = new Draws();
    private final Chains chains = new Chains();
    private final Matching matching = new Matching();
    private final ThanksRings thanksRings = new ThanksRings();

    public LentTools() {
    }

    public int feed(int a, int b, int c, int d, int e) {
        if (tapeLength + FEED_BYTES > TAPE_MOST) {
            return NONE;
        }
        putBytes(a);
        putBytes(b);
        putBytes(c);
        putBytes(d);
        putBytes(e);
        return tapeLength;
    }

    private void putBytes(int number) {
        for (int shift = 24; shift >= 0; shift -= 8) {
            if (tapeLength < TAPE_MOST) {
                tape[tapeLength] = (number >>> shift) & 255;
                tapeLength++;
            }
        }
    }

    public int end(int n) {
        if (n < 0 || n > tapeLength) {
            return NONE;
        }
        tapeLength = n;
        return n;
    }

    public int village() {
        openTape();
        villageReader.readInto(text, trial);
        if (!text.isSound()) {
            return -2 - text.fault;
        }
        present.copyFrom(trial);
        history.forget();
        return present.tools();
    }

    public int rule() {
        if (ruleCount >= RULES_MOST) {
            return NONE;
        }
        openTape();
        Rule told = ruleReader.readRule(text);
        if (told == null) {
            return -2 - text.fault;
        }
        rules[ruleCount] = told;
        ruleCount++;
        return ruleCount - 1;
    }

    // The tape is empty behind a faulty text too: of a fault only "all stays" is said, of a seventh
    // rule "nothing happens".
    private void openTape() {
        text.open(tape, tapeLength);
        tapeLength = 0;
    }

    public int tool(int tool, int what) {
        if (!present.hasTool(tool) || what < 0 || what > 7) {
            return NONE;
        }
        if (what == 6) {
            return present.sharpOf(tool);
        }
        return what == 7 ? present.rustOf(tool) : present.ofTool(tool, what);
    }

    public int work(int work, int what) {
        if (!present.hasWork(work) || what < 0 || what > 5) {
            return -2;
        }
        if (what == 5) {
            return present.canWork(work) ? 1 : 0;
        }
        return present.ofWork(work, what);
    }

    public int house(int one, int other, int what) {
        if (!present.areTwoHouses(one, other) || what < 0 || what > 1) {
            return NONE;
        }
        if (what == 0) {
            return present.trusts(one, other) ? 1 : 0;
        }
        return present.owes(one, other);
    }

    public int lend(int tool, int house) {
        if (!present.hasTool(tool) || !present.hasHouse(house) || !present.canLend(tool, house)) {
            return NONE;
        }
        history.keep(present);
        present.lendTo(tool, house);
        return present.sharpOf(tool);
    }

    public int giveBack(int tool) {
        if (!present.hasTool(tool) || present.isHome(tool)) {
            return NONE;
        }
        history.keep(present);
        present.bringHome(tool);
        return present.ofTool(tool, Village.OWNER);
    }

    public int does(int work) {
        if (!present.hasWork(work) || !present.canWork(work)) {
            return NONE;
        }
        history.keep(present);
        return present.finishWork(work);
    }

    public boolean quarrel(int one, int other) {
        if (!present.areTwoHouses(one, other) || !present.eitherTrusts(one, other)) {
            return false;
        }
        history.keep(present);
        present.fallOut(one, other);
        return true;
    }

    public int ring() {
        thanksRings.findShortest(present);
        if (thanksRings.length == 0) {
            return NONE;
        }
        history.keep(present);
        thanksRings.settle(present);
        return thanksRings.length;
    }

    public int gift(int tool, int house) {
        if (!present.hasTool(tool) || !present.hasHouse(house)) {
            return NONE;
        }
        int before = present.ofTool(tool, Village.OWNER);
        if (before == house) {
            return NONE;
        }
        history.keep(present);
        present.giveAway(tool, house);
        return before;
    }

    public int day() {
        if (!present.isTold() || present.today() >= LAST_DAY) {
            return NONE;
        }
        history.keep(present);
        present.passDay();
        return present.lateTools();
    }

    public int undo() {
        if (history.size() == 0) {
            return NONE;
        }
        history.takeBack(present);
        return history.size();
    }

    public int run(int rule, int n) {
        if (!present.isTold() || !hasRule(rule) || n < 1 || n > DAYS_MOST
                || present.today() + n > LAST_DAY) {
            return NONE;
        }
        int before = present.earned();
        for (int i = 0; i < n; i++) {
            rules[rule].lendAll(present);
            present.finishWorks();
            present.passDay();
        }
        history.forget();
        return present.earned() - before;
    }

    private boolean hasRule(int rule) {
        return rule >= 0 && rule < ruleCount && rules[rule] != null;
    }

    public int chain(int tool, int house, boolean longest, int what) {
        if (!present.hasTool(tool) || !present.hasHouse(house) || what < 0 || what > 6) {
            return -3;
        }
        chains.measure(present, tool);
        int length = longest ? chains.most[house] : chains.fewest[house];
        if (length < 0) {
            return -2;
        }
        if (what == 0) {
            return length;
        }
        if (what == 1) {
            return present.sharpAfter(tool, length);
        }
        if (what - 2 >= length) {
            return -2;
        }
        chains.listRows(present, tool, house, length);
        return chains.first[what - 2];
    }

    public int match(int what) {
        if (!present.isTold() || what < 0 || what > Village.MOST) {
            return -3;
        }
        if (what > present.works()) {
            return -2;
        }
        int pay = matching.earn(present, NONE);
        return what == 0 ? pay : matching.toolFor(what - 1);
    }

    public int worth(int tool) {
        if (!present.hasTool(tool)) {
            return NONE;
        }
        return matching.earn(present, NONE) - matching.earn(present, tool);
    }

    public int owner(int tool, int what) {
        if (!present.hasTool(tool) || what < 0 || what > 1) {
            return NONE;
        }
        int best = present.ofTool(tool, Village.OWNER);
        int most = matching.earn(present, NONE);
        for (int house = 0; house < present.houses(); house++) {
            if (house != present.ofTool(tool, Village.OWNER)) {
                trial.copyFrom(present);
                trial.giveAway(tool, house);
                int pay = matching.earn(trial, NONE);
                if (pay > most) {
                    most = pay;
                    best = house;
                }
            }
        }
        return what == 0 ? best : most;
    }

    public int breaks(int what) {
        if (!present.isTold() || what < 0 || what > 2) {
            return NONE;
        }
        int lesser = -2;
        int greater = -2;
        int least = 0;
        for (int one = 0; one < present.houses(); one++) {
            for (int other = one + 1; other < present.houses(); other++) {
                if (present.eitherTrusts(one, other)) {
                    trial.copyFrom(present);
                    trial.fallOut(one, other);
                    int pay = matching.earn(trial, NONE);
                    if (lesser < 0 || pay < least) {
                        lesser = one;
                        greater = other;
                        least = pay;
                    }
                }
            }
        }
        if (what < 2 || lesser < 0) {
            return what == 0 ? lesser : greater;
        }
        return matching.earn(present, NONE) - least;
    }

    public int rings(int what) {
        if (!present.isTold() || what < 0 || what > 7) {
            return NONE;
        }
        if (what == 0) {
            return thanksRings.housesInRings(present);
        }
        thanksRings.findShortest(present);
        if (what == 1) {
            return thanksRings.length;
        }
        return what - 2 < thanksRings.length ? thanksRings.row[what - 2] : -2;
    }

    public int debt(int house) {
        return present.hasHouse(house) ? present.debtOf(house) : -1000;
    }

    public int came(int tool, int what) {
        if (!present.hasTool(tool) || what < 0 || what > 2) {
            return NONE;
        }
        chains.listPast(present, tool);
        if (what == 0) {
            return chains.rows;
        }
        if (what == 1) {
            return chains.lenders;
        }
        return chains.rows == 0 || present.isHome(tool) ? -2 : chains.firstLender;
    }

    public int done(int rule) {
        if (!present.isTold() || !hasRule(rule)) {
            return NONE;
        }
        if (present.isAllDone()) {
            return present.today();
        }
        trial.copyFrom(present);
        for (int i = 0; i < DAYS_MOST; i++) {
            rules[rule].lendAll(trial);
            trial.finishWorks();
            if (trial.isAllDone()) {
                return trial.today();
            }
            trial.passDay();
        }
        return -2;
    }

    public int safe(int kind) {
        if (!present.isTold() || kind < 0 || kind >= KINDS) {
            return NONE;
        }
        int bits = 0;
        for (int house = 0; house < present.houses(); house++) {
            if (isSafe(house, kind)) {
                bits |= 1 << house;
            }
        }
        return bits;
    }

    private boolean isSafe(int house, int kind) {
        for (int other = 0; other < present.houses(); other++) {
            if (other != house) {
                trial.copyFrom(present);
                trial.fallOut(house, other);
                if (!chains.canGet(trial, house, kind)) {
                    return false;
                }
            }
        }
        return true;
    }

    public int seed(int x) {
        if (x < 0) {
            return NONE;
        }
        int before = draws.x;
        draws.x = x;
        return before;
    }

    public int harvests(int m, int n, int what) {
        if (!present.isTold() || m < 1 || m > TIMES_MOST || n < 1 || n > DAYS_MOST
                || what < 0 || what > 1) {
            return NONE;
        }
        int seedBefore = draws.x;
        int pay = 0;
        int loans = 0;
        for (int time = 0; time < m; time++) {
            trial.copyFrom(present);
            for (int i = 0; i < n; i++) {
                loans += draws.lendAll(trial);
                trial.finishWorks();
                trial.passDay();
            }
            pay += trial.earned() - present.earned();
        }
        draws.x = seedBefore;
        return what == 0 ? pay : loans;
    }

    public int count(int what) {
        switch (what) {
            case 0:
                return present.houses();
            case 1:
                return present.late();
            case 2:
                return present.tools();
            case 3:
                return present.works();
            case 4:
                return ruleCount;
            case 5:
                return present.today();
            case 6:
                return present.earned();
            case 7:
                return present.doneBits();
            case 8:
                return present.allThanks();
            case 9:
                return history.size();
            case 10:
                return draws.x;
            case 11:
                return tapeLength;
            default:
                return NONE;
        }
    }

    public int image(int k) {
        if (k < 0 || k >= IMAGES_MOST) {
            return NONE;
        }
        present.writeTo(imageCells[k]);
        imageSeeds[k] = draws.x;
        imageMade[k] = true;
        return present.today();
    }

    public int back(int k) {
        if (k < 0 || k >= IMAGES_MOST || !imageMade[k]) {
            return NONE;
        }
        present.readFrom(imageCells[k]);
        draws.x = imageSeeds[k];
        history.forget();
        return present.today();
    }

    /**
     * The houses, tools and works as they are. All of it stands in one row of cells, so that it is
     * kept for an undo, an image or a trial by one copy.
     */
    private static final class Village {
        /** Most houses, most tools and most works alike. */
        static final int MOST = 6;

        static final int OWNER = 0;
        static final int KIND = 1;
        static final int EDGE = 2;
        static final int HOLDER = 3;
        static final int LENT = 4;
        static final int OUT = 5;

        static final int PLACE = 0;
        static final int NEEDS = 1;
        static final int SHARP = 2;
        static final int PAY = 3;
        static final int DONE_ON = 4;

        private static final int HOUSES_CELL = 0;
        private static final int LATE_CELL = 1;
        private static final int TOOLS_CELL = 2;
        private static final int WORKS_CELL = 3;
        private static final int DAY_CELL = 4;
        private static final int EARNED_CELL = 5;
        private static final int TOOL_CELLS = 6;
        private static final int WORK_CELLS = TOOL_CELLS + 6 * MOST;
        private static final int TRUST_CELLS = WORK_CELLS + 5 * MOST;
        private static final int THANKS_CELLS = TRUST_CELLS + MOST;
        static final int SIZE = THANKS_CELLS + MOST * MOST;

        private static final int THANKS_MOST = 99;

        private final int[] cells = new int[SIZE];

        void writeTo(int[] row) {
            System.arraycopy(cells, 0, row, 0, SIZE);
        }

        void readFrom(int[] row) {
            System.arraycopy(row, 0, cells, 0, SIZE);
        }

        void copyFrom(Village other) {
            System.arraycopy(other.cells, 0, cells, 0, SIZE);
        }

        void tellHouses(int houses, int late) {
            Arrays.fill(cells, 0);
            cells[HOUSES_CELL] = houses;
            cells[LATE_CELL] = late;
        }

        void tellTool(int owner, int kind, int edge) {
            int tool = tools();
            if (tool < MOST) {
                setOfTool(tool, OWNER, owner);
                setOfTool(tool, KIND, kind);
                setOfTool(tool, EDGE, edge);
                setOfTool(tool, HOLDER, owner);
                cells[TOOLS_CELL] = tool + 1;
            }
        }

        void tellWork(int house, int kind, int sharp, int pay) {
            int work = works();
            if (work < MOST) {
                setOfWork(work, PLACE, house);
                setOfWork(work, NEEDS, kind);
                setOfWork(work, SHARP, sharp);
                setOfWork(work, PAY, pay);
                setOfWork(work, DONE_ON, NONE);
                cells[WORKS_CELL] = work + 1;
            }
        }

        void tellTrust(int one, int other) {
            cells[TRUST_CELLS + one] |= 1 << other;
        }

        void tellThanks(int one, int other, int thanks) {
            cells[THANKS_CELLS + MOST * one + other] = thanks;
        }

        boolean isTold() {
            return houses() > 0;
        }

        int houses() {
            return cells[HOUSES_CELL];
        }

        int late() {
            return cells[LATE_CELL];
        }

        int tools() {
            return cells[TOOLS_CELL];
        }

        int works() {
            return cells[WORKS_CELL];
        }

        int today() {
            return cells[DAY_CELL];
        }

        int earned() {
            return cells[EARNED_CELL];
        }

        boolean hasTool(int tool) {
            return tool >= 0 && tool < tools();
        }

        boolean hasWork(int work) {
            return work >= 0 && work < works();
        }

        boolean hasHouse(int house) {
            return house >= 0 && house < houses();
        }

        boolean areTwoHouses(int one, int other) {
            return hasHouse(one) && hasHouse(other) && one != other;
        }

        int ofTool(int tool, int what) {
            return cells[TOOL_CELLS + MOST * what + tool];
        }

        private void setOfTool(int tool, int what, int value) {
            cells[TOOL_CELLS + MOST * what + tool] = value;
        }

        int ofWork(int work, int what) {
            return cells[WORK_CELLS + MOST * what + work];
        }

        private void setOfWork(int work, int what, int value) {
            cells[WORK_CELLS + MOST * what + work] = value;
        }

        /** The houses that this one trusts, as bits. */
        int trustedBy(int house) {
            return cells[TRUST_CELLS + house];
        }

        boolean trusts(int one, int other) {
            return (trustedBy(one) >> other & 1) != 0;
        }

        boolean eitherTrusts(int one, int other) {
            return trusts(one, other) || trusts(other, one);
        }

        int owes(int one, int other) {
            return cells[THANKS_CELLS + MOST * one + other];
        }

        int debtOf(int house) {
            int debt = 0;
            for (int other = 0; other < houses(); other++) {
                debt += owes(house, other) - owes(other, house);
            }
            return debt;
        }

        int allThanks() {
            int sum = 0;
            for (int cell = THANKS_CELLS; cell < SIZE; cell++) {
                sum += cells[cell];
            }
            return sum;
        }

        boolean isHome(int tool) {
            return ofTool(tool, HOLDER) == ofTool(tool, OWNER);
        }

        int rustOf(int tool) {
            return Math.max(0, ofTool(tool, OUT) - late());
        }

        int sharpOf(int tool) {
            return sharpAfter(tool, 0);
        }

        /** How sharp it is when it has been lent on so many times more today. */
        int sharpAfter(int tool, int loans) {
            if (loans == 0 && isHome(tool)) {
                return 0;
            }
            return Math.max(0, ofTool(tool, EDGE) + ofTool(tool, LENT) + loans - rustOf(tool));
        }

        boolean canLend(int tool, int house) {
            return house != ofTool(tool, OWNER) && trusts(ofTool(tool, HOLDER), house);
        }

        void lendTo(int tool, int house) {
            int holder = ofTool(tool, HOLDER);
            tellThanks(house, holder, Math.min(THANKS_MOST, owes(house, holder) + 1));
            setOfTool(tool, LENT, ofTool(tool, LENT) + 1);
            setOfTool(tool, HOLDER, house);
        }

        void bringHome(int tool) {
            giveAway(tool, ofTool(tool, OWNER));
        }

        void giveAway(int tool, int house) {
            setOfTool(tool, OWNER, house);
            setOfTool(tool, HOLDER, house);
            setOfTool(tool, LENT, 0);
            setOfTool(tool, OUT, 0);
        }

        void fallOut(int one, int other) {
            cells[TRUST_CELLS + one] &= ~(1 << other);
            cells[TRUST_CELLS + other] &= ~(1 << one);
        }

        boolean isDone(int work) {
            return ofWork(work, DONE_ON) != NONE;
        }

        boolean canWork(int work) {
            if (isDone(work)) {
                return false;
            }
            for (int tool = 0; tool < tools(); tool++) {
                if (ofTool(tool, KIND) == ofWork(work, NEEDS)
                        && ofTool(tool, HOLDER) == ofWork(work, PLACE)
                        && sharpOf(tool) >= ofWork(work, SHARP)) {
                    return true;
                }
            }
            return false;
        }

        int finishWork(int work) {
            int pay = ofWork(work, PAY);
            setOfWork(work, DONE_ON, today());
            cells[EARNED_CELL] += pay;
            return pay;
        }

        void finishWorks() {
            for (int work = 0; work < works(); work++) {
                if (canWork(work)) {
                    finishWork(work);
                }
            }
        }

        int doneBits() {
            int bits = 0;
            for (int work = 0; work < works(); work++) {
                if (isDone(work)) {
                    bits |= 1 << work;
                }
            }
            return bits;
        }

        boolean isAllDone() {
            return doneBits() == (1 << works()) - 1;
        }

        // The day stays 999 where a trial looks further than that: it is "999 at most".
        void passDay() {
            for (int tool = 0; tool < tools(); tool++) {
                if (!isHome(tool)) {
                    setOfTool(tool, OUT, ofTool(tool, OUT) + 1);
                }
            }
            cells[DAY_CELL] = Math.min(LAST_DAY, today() + 1);
        }

        int lateTools() {
            int late = 0;
            for (int tool = 0; tool < tools(); tool++) {
                if (rustOf(tool) > 0) {
                    late++;
                }
            }
            return late;
        }

        /** The greatest (else the sum) of what is asked of works there, not done, of the tool's kind. */
        int wantedOf(int tool, int house, int what, boolean greatest) {
            int wanted = 0;
            for (int work = 0; work < works(); work++) {
                if (ofWork(work, PLACE) == house && ofWork(work, DONE_ON) == NONE
                        && ofWork(work, NEEDS) == ofTool(tool, KIND)) {
                    int value = ofWork(work, what);
                    wanted = greatest ? Math.max(wanted, value) : wanted + value;
                }
            }
            return wanted;
        }
    }

    /** What stood ahead of each of the last acts; the rows are used again in a circle. */
    private static final class History {
        private static final int ACTS = 20;

        private final int[][] kept = new int[ACTS][Village.SIZE];
        private int next;
        private int held;

        int size() {
            return held;
        }

        void forget() {
            held = 0;
        }

        void keep(Village village) {
            village.writeTo(kept[next]);
            next = (next + 1) % ACTS;
            held = Math.min(ACTS, held + 1);
        }

        void takeBack(Village village) {
            if (held > 0) {
                next = (next + ACTS - 1) % ACTS;
                held--;
                village.readFrom(kept[next]);
            }
        }
    }

    /** The tape as it is read: signs, words and numbers, and the first fault. */
    private static final class Text {
        static final int END = -1;
        static final int MISPLACED = 0;
        static final int WRONG_NUMBER = 1;
        static final int TOO_DEEP = 2;
        static final int TOO_MANY_VALUES = 3;
        static final int WRONG_CLAUSE = 4;

        private static final int DIGITS_MOST = 5;

        private int[] bytes = new int[0];
        private int length;
        int place;
        /** Where the number or word that was looked at last begins. */
        int began;
        int fault;

        void open(int[] tape, int tapeLength) {
            bytes = tape;
            length = Math.min(tapeLength, tape.length);
            place = 0;
            fault = 0;
        }

        boolean isSound() {
            return fault == 0;
        }

        // The text is read from left to right and at each place the least fault is looked for
        // first: so the first that is told stays.
        void refuse(int at, int what) {
            if (fault == 0) {
                fault = 1 + 8 * at + what;
            }
        }

        /** The next byte that is no blank, or END; it isn't passed. */
        int sign() {
            while (place < length && bytes[place] == ' ') {
                place++;
            }
            return place < length ? bytes[place] : END;
        }

        void pass() {
            place++;
        }

        /** Passes this byte if it stands just here, without a blank ahead of it. */
        boolean passHere(int sign) {
            if (place >= length || bytes[place] != sign) {
                return false;
            }
            place++;
            return true;
        }

        static boolean isDigit(int sign) {
            return sign >= '0' && sign <= '9';
        }

        private static boolean isLetter(int sign) {
            return sign >= 'a' && sign <= 'z';
        }

        int numeral(int least, int most) {
            sign();
            began = place;
            int value = 0;
            while (place < length && isDigit(bytes[place])) {
                if (place - began < DIGITS_MOST) {
                    value = 10 * value + bytes[place] - '0';
                }
                place++;
            }
            if (place == began) {
                refuse(began, MISPLACED);
            } else if (place - began > DIGITS_MOST || value < least || value > most) {
                refuse(began, WRONG_NUMBER);
            }
            return value;
        }

        /** Passes the next word if it is one of these (each with a blank behind it): which, or NONE. */
        int passWord(String words) {
            sign();
            began = place;
            int wordEnd = place;
            while (wordEnd < length && isLetter(bytes[wordEnd])) {
                wordEnd++;
            }
            int number = 0;
            int at = began;
            for (int i = 0; i < words.length(); i++) {
                if (words.charAt(i) != ' ') {
                    // NONE marks a word that has already shown to be another one.
                    at = at != NONE && at < wordEnd && bytes[at] == words.charAt(i) ? at + 1 : NONE;
                } else if (at == wordEnd) {
                    place = wordEnd;
                    return number;
                } else {
                    number++;
                    at = began;
                }
            }
            return NONE;
        }

        int expectWord(String words) {
            int number = passWord(words);
            if (number == NONE) {
                refuse(began, MISPLACED);
            }
            return number;
        }

        /** Behind a clause: whether another one must come. */
        boolean goesOn() {
            if (!isSound()) {
                return false;
            }
            int sign = sign();
            if (sign == ';') {
                pass();
                return true;
            }
            if (sign != END) {
                refuse(place, MISPLACED);
            }
            return false;
        }
    }

    private static final class VillageReader {
        private static final int CLAUSES_MOST = 40;
        private static final String CLAUSES = "village tool trust work thanks ";
        private static final int VILLAGE = 0;
        private static final int TOOL = 1;
        private static final int TRUST = 2;
        private static final int WORK = 3;

        // The numbers behind each of these words, one word's behind the other's: where its own
        // begin, and between what they lie (a house, of which the village says how many: HOUSE).
        private static final int HOUSE = -1;
        private static final int[] STARTS = {0, 2, 5, 7, 11, 14};
        private static final int[] LEAST = {2, 1, 0, 0, 0, 0, 0, 0, 0, 1, 1, 0, 0, 0};
        private static final int[] GREATEST = {6, 20, -1, 4, 9, -1, -1, -1, 4, 20, 50, -1, -1, 9};

        private final int[] numbers = new int[4];

        void readInto(Text text, Village into) {
            for (int clause = 0; clause <= CLAUSES_MOST; clause++) {
                readClause(text, into, clause);
                if (!text.goesOn()) {
                    return;
                }
            }
        }

        private void readClause(Text text, Village into, int clause) {
            int word = text.expectWord(CLAUSES);
            if (word == NONE) {
                return;
            }
            if (!mayStand(into, word, clause)) {
                text.refuse(text.began, Text.WRONG_CLAUSE);
                return;
            }
            readNumbers(text, into.houses(), word);
            if (text.isSound()) {
                tell(into, word);
            }
        }

        private static boolean mayStand(Village into, int word, int clause) {
            if (clause == 0 || word == VILLAGE) {
                return clause == 0 && word == VILLAGE;
            }
            if (word == TOOL && into.tools() >= Village.MOST) {
                return false;
            }
            return clause < CLAUSES_MOST && (word != WORK || into.works() < Village.MOST);
        }

        private void readNumbers(Text text, int houses, int word) {
            int start = STARTS[word];
            for (int i = 0; start + i < STARTS[word + 1] && text.isSound(); i++) {
                boolean isHouse = GREATEST[start + i] == HOUSE;
                int most = isHouse ? houses - 1 : GREATEST[start + i];
                numbers[i] = text.numeral(LEAST[start + i], most);
                if (isHouse && i == 1 && numbers[0] == numbers[1]) {
                    text.refuse(text.began, Text.WRONG_NUMBER);
                }
            }
        }

        private void tell(Village into, int word) {
            switch (word) {
                case VILLAGE:
                    into.tellHouses(numbers[0], numbers[1]);
                    break;
                case TOOL:
                    into.tellTool(numbers[0], numbers[1], numbers[2]);
                    break;
                case TRUST:
                    into.tellTrust(numbers[0], numbers[1]);
                    break;
                case WORK:
                    into.tellWork(numbers[0], numbers[1], numbers[2], numbers[3]);
                    break;
                default:
                    into.tellThanks(numbers[0], numbers[1], numbers[2]);
                    break;
            }
        }
    }

    /**
     * Turns a rule's text into steps for a stack (Rule says which), each operation behind what it
     * works on. An operation waits until one comes that binds no closer.
     */
    private static final class RuleReader {
        private static final int CLAUSES_MOST = 12;
        private static final int DEEPEST = 10;
        private static final int COUNTED_MOST = 60;
        private static final int NUMBER_MOST = 99999;

        // What must come next.
        private static final int CLAUSE = 0;
        private static final int FACT = 1;
        private static final int VALUE = 2;
        private static final int JOINT = 3;
        private static final int NOTHING = 4;

        // Where a value or a closing bracket, which a joint follows, stands.
        private static final int IN_ANSWER = 0;
        private static final int LEFT_OF_SIGN = 1;
        private static final int RIGHT_OF_SIGN = 2;
        private static final int CLOSED = 3;

        private final int[] steps = new int[TAPE_MOST];
        private int length;
        private final int[] waiting = new int[TAPE_MOST];
        private int waitingLength;
        private int clauses;
        private int counted;
        private int depth;
        private int brackets;
        private int expected;
        private int where;

        /** The rule, or null: the text has a fault. */
        Rule readRule(Text text) {
            length = 0;
            waitingLength = 0;
            clauses = 0;
            counted = 0;
            depth = 0;
            brackets = 0;
            expected = CLAUSE;
            // Each turn but the last passes a byte at least.
            for (int i = 0; i <= TAPE_MOST && expected != NOTHING && text.isSound(); i++) {
                if (expected == CLAUSE) {
                    readLend(text);
                } else if (expected == FACT) {
                    readFact(text);
                } else if (expected == VALUE) {
                    readValue(text);
                } else {
                    readJoint(text);
                }
            }
            return text.isSound() ? new Rule(Arrays.copyOf(steps, length)) : null;
        }

        private void readLend(Text text) {
            text.expectWord("lend ");
            if (clauses >= CLAUSES_MOST) {
                text.refuse(text.began, Text.WRONG_CLAUSE);
            }
            clauses++;
            where = IN_ANSWER;
            expected = VALUE;
        }

        private void readFact(Text text) {
            boolean opens = text.sign() == '[';
            int at = text.place;
            if (!opens && text.passWord("not ") == NONE) {
                where = LEFT_OF_SIGN;
                readValue(text);
                return;
            }
            if (depth >= DEEPEST) {
                text.refuse(at, Text.TOO_DEEP);
            }
            depth++;
            if (opens) {
                text.pass();
                brackets++;
            }
            letWait(opens ? Rule.BRACKET : Rule.NOT);
        }

        private void readValue(Text text) {
            if (Text.isDigit(text.sign())) {
                put(Rule.FIRST_NUMBER + text.numeral(0, NUMBER_MOST));
            } else {
                put(Rule.FIRST_WORD + text.expectWord(Rule.WORDS));
            }
            countOne(text, text.began);
            expected = JOINT;
        }

        private void countOne(Text text, int at) {
            if (counted >= COUNTED_MOST) {
                text.refuse(at, Text.TOO_MANY_VALUES);
            }
            counted++;
        }

        private void readJoint(Text text) {
            int operation = where == CLOSED ? NONE : operationOf(text.sign());
            if (operation != NONE) {
                text.pass();
                joinBy(operation);
                expected = VALUE;
            } else if (where == IN_ANSWER) {
                endAnswer(text);
            } else if (where == LEFT_OF_SIGN) {
                readSign(text);
            } else {
                endFact(text);
            }
        }

        private static int operationOf(int sign) {
            switch (sign) {
                case '+':
                    return Rule.PLUS;
                case '-':
                    return Rule.MINUS;
                case '*':
                    return Rule.TIMES;
                case '/':
                    return Rule.DIVIDED;
                case '%':
                    return Rule.REST;
                default:
                    return NONE;
            }
        }

        private void endAnswer(Text text) {
            if (text.passWord("if ") != NONE) {
                settle(Rule.OR);
                expected = FACT;
            } else {
                endClause(text, Rule.ANSWER);
            }
        }

        private void readSign(Text text) {
            int sign = text.sign();
            int at = text.place;
            if (sign != '<' && sign != '=' && sign != '>') {
                text.refuse(at, Text.MISPLACED);
                return;
            }
            countOne(text, at);
            text.pass();
            if (sign == '=') {
                joinBy(Rule.EQUAL);
            } else if (text.passHere('=')) {
                joinBy(sign == '<' ? Rule.LESS_OR_EQUAL : Rule.MORE_OR_EQUAL);
            } else {
                joinBy(sign == '<' ? Rule.LESS : Rule.MORE);
            }
            where = RIGHT_OF_SIGN;
            expected = VALUE;
        }

        private void endFact(Text text) {
            int word = text.passWord("and or ");
            if (word != NONE) {
                joinBy(word == 0 ? Rule.AND : Rule.OR);
                expected = FACT;
            } else if (brackets == 0) {
                endClause(text, Rule.ANSWER_IF);
            } else if (text.sign() == ']') {
                text.pass();
                closeBracket();
            } else {
                text.refuse(text.place, Text.MISPLACED);
            }
        }

        private void closeBracket() {
            settle(Rule.OR);
            if (waitingLength > 0) {
                waitingLength--;
            }
            brackets--;
            depth--;
            where = CLOSED;
        }

        private void endClause(Text text, int answer) {
            settle(Rule.OR);
            put(answer);
            expected = text.goesOn() ? CLAUSE : NOTHING;
        }

        private void joinBy(int operation) {
            settle(operation);
            letWait(operation);
        }

        /** Puts what waits, back to the last open bracket, and binds as closely as this at least. */
        private void settle(int operation) {
            while (waitingLength > 0
                    && Rule.closeness(waiting[waitingLength - 1]) >= Rule.closeness(operation)) {
                waitingLength--;
                put(waiting[waitingLength]);
                if (waiting[waitingLength] == Rule.NOT) {
                    depth--;
                }
            }
        }

        private void letWait(int operation) {
            if (waitingLength < waiting.length) {
                waiting[waitingLength] = operation;
                waitingLength++;
            }
        }

        private void put(int step) {
            if (length < steps.length) {
                steps[length] = step;
                length++;
            }
        }
    }

    /** A rule as steps: to put a number or a word's value on a stack, to join the upper two, to answer. */
    private static final class Rule {
        static final int BRACKET = 0;
        static final int OR = 1;
        static final int AND = 2;
        static final int NOT = 3;
        static final int LESS = 4;
        static final int LESS_OR_EQUAL = 5;
        static final int EQUAL = 6;
        static final int MORE_OR_EQUAL = 7;
        static final int MORE = 8;
        static final int PLUS = 9;
        static final int MINUS = 10;
        static final int TIMES = 11;
        static final int DIVIDED = 12;
        static final int REST = 13;
        static final int ANSWER = 14;
        static final int ANSWER_IF = 15;
        static final int FIRST_WORD = 20;
        static final int FIRST_NUMBER = 40;

        static final String WORDS =
                "tool kind owner holder to lent sharp out day need pay owes trusts ";

        // No more than the sixty values of a text can lie on one another.
        private static final int STACK = 64;

        private final int[] steps;
        private final long[] stack = new long[STACK];

        Rule(int[] steps) {
            this.steps = steps;
        }

        /** How closely an operation binds; an open bracket, which is no step, less than all. */
        static int closeness(int operation) {
            if (operation <= NOT) {
                return operation;
            }
            if (operation <= MORE) {
                return LESS;
            }
            return operation <= MINUS ? PLUS : TIMES;
        }

        void lendAll(Village village) {
            for (int tool = 0; tool < village.tools(); tool++) {
                int best = NONE;
                long greatest = 0;
                for (int house = 0; house < village.houses(); house++) {
                    long sum = village.canLend(tool, house) ? sumFor(village, tool, house) : 0;
                    if (sum > greatest) {
                        greatest = sum;
                        best = house;
                    }
                }
                if (best != NONE) {
                    village.lendTo(tool, best);
                }
            }
        }

        private long sumFor(Village village, int tool, int house) {
            int held = 0;
            for (int i = 0; i < steps.length; i++) {
                int step = steps[i];
                if (step >= FIRST_WORD) {
                    if (held < STACK) {
                        stack[held] = step >= FIRST_NUMBER ? step - FIRST_NUMBER
                                : wordFor(step - FIRST_WORD, village, tool, house);
                        held++;
                    }
                } else if (step == ANSWER) {
                    return stack[0];
                } else if (step == ANSWER_IF) {
                    if (stack[1] != 0) {
                        return stack[0];
                    }
                    held = 0;
                } else if (step == NOT && held > 0) {
                    stack[held - 1] = 1 - stack[held - 1];
                } else if (held > 1) {
                    held--;
                    stack[held - 1] = join(step, stack[held - 1], stack[held]);
                }
            }
            return 0;
        }

        private static long join(int step, long left, long right) {
            switch (step) {
                case PLUS:
                    return left + right;
                case MINUS:
                    return left - right;
                case TIMES:
                    return left * right;
                case DIVIDED:
                    return right == 0 ? 0 : left / right;
                case REST:
                    return right == 0 ? 0 : left % right;
                case AND:
                    return left & right;
                case OR:
                    return left | right;
                default:
                    return holds(step, left, right) ? 1 : 0;
            }
        }

        private static boolean holds(int step, long left, long right) {
            switch (step) {
                case LESS:
                    return left < right;
                case LESS_OR_EQUAL:
                    return left <= right;
                case EQUAL:
                    return left == right;
                case MORE_OR_EQUAL:
                    return left >= right;
                default:
                    return left > right;
            }
        }

        /** The value of a word by its place among WORDS. */
        private static int wordFor(int word, Village village, int tool, int house) {
            int holder = village.ofTool(tool, Village.HOLDER);
            switch (word) {
                case 0:
                    return tool;
                case 1:
                    return village.ofTool(tool, Village.KIND);
                case 2:
                    return village.ofTool(tool, Village.OWNER);
                case 3:
                    return holder;
                case 4:
                    return house;
                case 5:
                    return village.ofTool(tool, Village.LENT);
                case 6:
                    return village.sharpAfter(tool, 1);
                case 7:
                    return village.ofTool(tool, Village.OUT);
                case 8:
                    return village.today();
                case 9:
                    return village.wantedOf(tool, house, Village.SHARP, true);
                case 10:
                    return village.wantedOf(tool, house, Village.PAY, false);
                case 11:
                    return village.owes(house, holder);
                default:
                    return village.trusts(house, holder) ? 1 : 0;
            }
        }
    }

    /** The rows of houses by which a tool can go, or can have come. */
    private static final class Chains {
        private static final int LONGEST = Village.MOST - 1;

        /** By houses, the most and the fewest loans by which the tool comes there; NONE: by none. */
        final int[] most = new int[Village.MOST];
        final int[] fewest = new int[Village.MOST];
        // By sets of houses: at which of them a row can end that has gone through just these.
        private final int[] ends = new int[1 << Village.MOST];

        /** Of the rows listed last: how many, their first one, and who stands ahead of the end. */
        int rows;
        final int[] first = new int[LONGEST];
        int lenders;
        int firstLender;
        private final int[] row = new int[LONGEST];
        private int start;
        private int target;
        private int wanted;

        void measure(Village village, int tool) {
            Arrays.fill(most, NONE);
            Arrays.fill(fewest, NONE);
            Arrays.fill(ends, 0);
            int holder = village.ofTool(tool, Village.HOLDER);
            int passed = 1 << holder | 1 << village.ofTool(tool, Village.OWNER);
            ends[passed] = 1 << holder;
            int sets = 1 << village.houses();
            for (int set = passed; set < sets && set < ends.length; set++) {
                if (ends[set] != 0) {
                    noteLength(village.houses(), ends[set], Integer.bitCount(set ^ passed));
                    goFurther(village, set);
                }
            }
        }

        private void noteLength(int houses, int endings, int length) {
            for (int house = 0; house < houses; house++) {
                if ((endings >> house & 1) != 0) {
                    most[house] = Math.max(most[house], length);
                    if (fewest[house] == NONE || length < fewest[house]) {
                        fewest[house] = length;
                    }
                }
            }
        }

        private void goFurther(Village village, int set) {
            int reached = 0;
            for (int house = 0; house < village.houses(); house++) {
                if ((ends[set] >> house & 1) != 0) {
                    reached |= village.trustedBy(house);
                }
            }
            reached &= ~set;
            for (int house = 0; house < village.houses(); house++) {
                if ((reached >> house & 1) != 0) {
                    ends[set | 1 << house] |= 1 << house;
                }
            }
        }

        boolean canGet(Village village, int house, int kind) {
            for (int tool = 0; tool < village.tools(); tool++) {
                if (village.ofTool(tool, Village.KIND) == kind
                        && village.ofTool(tool, Village.OWNER) != house) {
                    measure(village, tool);
                    if (most[house] != NONE) {
                        return true;
                    }
                }
            }
            return false;
        }

        void listRows(Village village, int tool, int house, int length) {
            listFrom(village, village.ofTool(tool, Village.HOLDER),
                    village.ofTool(tool, Village.OWNER), house, length);
        }

        void listPast(Village village, int tool) {
            int owner = village.ofTool(tool, Village.OWNER);
            listFrom(village, owner, owner, village.ofTool(tool, Village.HOLDER),
                    village.ofTool(tool, Village.LENT));
        }

        private void listFrom(Village village, int from, int owner, int to, int length) {
            rows = 0;
            lenders = 0;
            firstLender = NONE;
            start = from;
            target = to;
            wanted = length;
            // A longer row would go through some house twice.
            if (length <= LONGEST) {
                goOn(village, from, 1 << from | 1 << owner, 0);
            }
        }

        private void goOn(Village village, int at, int passed, int filled) {
            if (filled >= wanted || filled >= LONGEST) {
                if (at == target) {
                    noteRow();
                }
                return;
            }
            for (int house = 0; house < village.houses(); house++) {
                if (village.trusts(at, house) && (passed >> house & 1) == 0) {
                    row[filled] = house;
                    goOn(village, house, passed | 1 << house, filled + 1);
                }
            }
        }

        private void noteRow() {
            int lender = wanted >= 2 ? row[wanted - 2] : start;
            if (wanted > 0) {
                lenders |= 1 << lender;
            }
            if (rows == 0) {
                firstLender = lender;
                System.arraycopy(row, 0, first, 0, LONGEST);
            }
            rows++;
        }
    }

    /** Which tool for which work. */
    private static final class Matching {
        private static final int SETS = 1 << Village.MOST;

        private final Chains chains = new Chains();
        private int works;
        // By works, the tools that could do it, as bits, and its pay.
        private final int[] able = new int[Village.MOST];
        private final int[] pays = new int[Village.MOST];
        // By works and sets of tools that are taken: the most that this work and those behind it earn.
        private final int[][] best = new int[Village.MOST + 1][SETS];

        /** The most pay without one tool (NONE: with all). */
        int earn(Village village, int without) {
            works = Math.min(village.works(), Village.MOST);
            findAble(village, without);
            int sets = Math.min(1 << village.tools(), SETS);
            Arrays.fill(best[works], 0);
            for (int work = works - 1; work >= 0; work--) {
                for (int taken = 0; taken < sets; taken++) {
                    best[work][taken] = mostFrom(work, taken);
                }
            }
            return best[0][0];
        }

        private int mostFrom(int work, int taken) {
            int most = best[work + 1][taken];
            int free = able[work] & ~taken;
            for (int tool = 0; tool < Village.MOST; tool++) {
                if ((free >> tool & 1) != 0) {
                    most = Math.max(most, pays[work] + best[work + 1][taken | 1 << tool]);
                }
            }
            return most;
        }

        private void findAble(Village village, int without) {
            for (int work = 0; work < works; work++) {
                able[work] = 0;
                pays[work] = village.ofWork(work, Village.PAY);
            }
            for (int tool = 0; tool < village.tools(); tool++) {
                if (tool != without) {
                    findWorksOf(village, tool);
                }
            }
        }

        private void findWorksOf(Village village, int tool) {
            chains.measure(village, tool);
            for (int work = 0; work < works; work++) {
                int loans = chains.most[village.ofWork(work, Village.PLACE)];
                if (loans != NONE && !village.isDone(work)
                        && village.ofWork(work, Village.NEEDS) == village.ofTool(tool, Village.KIND)
                        && village.sharpAfter(tool, loans) >= village.ofWork(work, Village.SHARP)) {
                    able[work] |= 1 << tool;
                }
            }
        }

        /** The tool for a work in the first row of those that earn as much as earn has said. */
        int toolFor(int wanted) {
            int taken = 0;
            int tool = NONE;
            for (int work = 0; work <= wanted && work < works; work++) {
                tool = firstTool(work, taken);
                if (tool != NONE) {
                    taken |= 1 << tool;
                }
            }
            return tool;
        }

        private int firstTool(int work, int taken) {
            if (best[work + 1][taken] == best[work][taken]) {
                return NONE;
            }
            int free = able[work] & ~taken;
            for (int tool = 0; tool < Village.MOST; tool++) {
                if ((free >> tool & 1) != 0
                        && pays[work] + best[work + 1][taken | 1 << tool] == best[work][taken]) {
                    return tool;
                }
            }
            return NONE;
        }
    }

    /** Rings of houses, each of which owes the next one thanks. */
    private static final class ThanksRings {
        /** The first of the shortest rings; its length is 0 if there is none. */
        final int[] row = new int[Village.MOST];
        int length;
        private final int[] reached = new int[Village.MOST];

        void findShortest(Village village) {
            for (int wanted = 2; wanted <= village.houses(); wanted++) {
                length = wanted;
                for (int least = 0; least < village.houses(); least++) {
                    row[0] = least;
                    if (closes(village, least, 1 << least, 1)) {
                        return;
                    }
                }
            }
            length = 0;
        }

        private boolean closes(Village village, int at, int passed, int filled) {
            if (filled >= length || filled >= Village.MOST) {
                return village.owes(at, row[0]) > 0;
            }
            for (int house = row[0] + 1; house < village.houses(); house++) {
                if (village.owes(at, house) > 0 && (passed >> house & 1) == 0) {
                    row[filled] = house;
                    if (closes(village, house, passed | 1 << house, filled + 1)) {
                        return true;
                    }
                }
            }
            return false;
        }

        void settle(Village village) {
            for (int i = 0; i < length && i < Village.MOST; i++) {
                int next = i + 1 < length ? row[i + 1] : row[0];
                village.tellThanks(row[i], next, village.owes(row[i], next) - 1);
            }
        }

        int housesInRings(Village village) {
            int houses = village.houses();
            for (int one = 0; one < houses; one++) {
                reached[one] = 0;
                for (int other = 0; other < houses; other++) {
                    if (village.owes(one, other) > 0) {
                        reached[one] |= 1 << other;
                    }
                }
            }
            for (int by = 0; by < houses; by++) {
                for (int one = 0; one < houses; one++) {
                    if ((reached[one] >> by & 1) != 0) {
                        reached[one] |= reached[by];
                    }
                }
            }
            int count = 0;
            for (int house = 0; house < houses; house++) {
                count += reached[house] >> house & 1;
            }
            return count;
        }
    }

    private static final class Draws {
        int x;

        private int drawn() {
            x = (int) ((x * 1103515245L + 12345L) % 2147483648L);
            return x / 65536;
        }

        /** One draw for each tool; how many of them were lent. */
        int lendAll(Village village) {
            int loans = 0;
            for (int tool = 0; tool < village.tools(); tool++) {
                int house = drawn() % (village.houses() + 1);
                if (house == village.houses()) {
                    // With its owner it stays as it is: no loans, no days out.
                    village.bringHome(tool);
                } else if (village.canLend(tool, house)) {
                    village.lendTo(tool, house);
                    loans++;
                }
            }
            return loans;
        }
    }
}
