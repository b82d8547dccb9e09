/** What the tests share: telling a text, and comparing an answer with the one that is due. */
final class Due {
    private String sentence = "";
    private int passed;
    private int failed;

    /** The sentence of the document that the next answers belong to. */
    void sentence(String of) {
        sentence = of;
    }

    void is(String call, long got, long want) {
        report(got == want, call + " answered " + got + ", due is " + want);
    }

    void is(String call, boolean got, boolean want) {
        is(call, got ? 1 : 0, want ? 1 : 0);
    }

    void is(String call, String got, String want) {
        report(got.equals(want), call + " answered " + got + ", due is " + want);
    }

    private void report(boolean right, String words) {
        if (right) {
            passed++;
            return;
        }
        failed++;
        if (failed <= 40) {
            System.out.println(sentence.isEmpty() ? words : "[" + sentence + "] " + words);
        }
    }

    /** The five numbers of the text's bytes from a place on, zeros behind its end. */
    static int[] numbers(String text, int from) {
        int[] five = new int[5];
        for (int i = 0; i < 20; i++) {
            int at = from + i;
            five[i / 4] = five[i / 4] << 8 | (at < text.length() ? text.charAt(at) & 255 : 0);
        }
        return five;
    }

    /** Puts a text on an empty tape. */
    static void tell(LentTools x, String text) {
        x.end(0);
        for (int from = 0; from < text.length(); from += 20) {
            int[] n = numbers(text, from);
            x.feed(n[0], n[1], n[2], n[3], n[4]);
        }
        x.end(text.length());
    }

    static int village(LentTools x, String text) {
        tell(x, text);
        return x.village();
    }

    static int rule(LentTools x, String text) {
        tell(x, text);
        return x.rule();
    }

    /** A new object with this village. */
    static LentTools of(String village) {
        LentTools x = new LentTools();
        village(x, village);
        return x;
    }

    /** What village() and rule() answer to a fault. */
    static int fault(int place, int code) {
        return -2 - (1 + 8 * place + code);
    }

    void close() {
        System.out.println(passed + " passed, " + failed + " failed");
        if (failed != 0 || passed == 0) {
            System.exit(1);
        }
    }
}
