/** Objects in which a call is tried that should change nothing; each call makes the same one anew. */
final class Scenes {
    private Scenes() {
    }

    /**
     * Three houses, two tools, two works, a rule; tool 0 of house 0 came by 1 to 2, where work 0 could be done; tool 1
     * is with its owner, house 1. Three acts can be undone, two images are made, "village 2 1" is on the tape.
     */
    static LentTools ordinary() {
        LentTools x = Due.of("village 3 2;tool 0 0 3;tool 1 1 9;trust 0 1;trust 1 2;trust 2 1;trust 2 0;work 2 0 5 10;"
                + "work 1 0 9 8;thanks 1 0 2");
        Due.rule(x, "lend sharp");
        x.seed(5);
        x.image(2);
        x.lend(0, 1);
        x.day();
        x.lend(0, 2);
        x.image(0);
        x.seed(6);
        Due.tell(x, "village 2 1");
        return x;
    }

    /** A small village with six rules, each of another day. */
    static LentTools sixRules() {
        LentTools x = new LentTools();
        Due.village(x, "village 2 1;tool 0 0 0;trust 0 1");
        for (int i = 0; i < 6; i++) {
            Due.rule(x, "lend 1 if day = " + i);
        }
        x.day();
        return x;
    }

    /** Nothing told but a rule. */
    static LentTools noVillage() {
        LentTools x = new LentTools();
        Due.rule(x, "lend 1");
        x.seed(7);
        Due.tell(x, "village 2 1");
        return x;
    }

    /** A small village on that day, its tool with its owner; if the day is above 0, one act can be undone: it. */
    static LentTools onDay(int day) {
        LentTools x = Due.of("village 2 1;tool 0 0 5;trust 0 1;work 1 0 1 7");
        Due.rule(x, "lend 0");
        Due.rule(x, "lend 1");
        while (x.count(5) < day - 1) {
            x.run(0, Math.min(60, day - 1 - x.count(5)));
        }
        if (day > 0) {
            x.day();
        }
        return x;
    }
}
