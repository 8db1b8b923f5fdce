/** Nets that several tests begin with. */
final class Nets {
    /** Numbers that no sense of a net of at most 29 senses and no word has. */
    static final int[] STRANGE = {-1, -2, 29, 30, 31, 32, 64, Integer.MAX_VALUE, Integer.MIN_VALUE};

    private Nets() {
    }

    static SenseNet of(int senses) {
        SenseNet x = new SenseNet();
        for (int sense = 0; sense < senses; sense++) {
            x.addSense();
        }
        return x;
    }

    /** A net with links, each a sense and its parent. */
    static SenseNet linked(int senses, int[]... links) {
        SenseNet x = of(senses);
        for (int[] link : links) {
            x.link(link[0], link[1]);
        }
        return x;
    }

    /** Each sense below the one with the next number. */
    static SenseNet chain(int senses) {
        SenseNet x = of(senses);
        for (int sense = 0; sense + 1 < senses; sense++) {
            x.link(sense, sense + 1);
        }
        return x;
    }

    /** The counts of the senses from 0 on. */
    static void counts(SenseNet x, int... counts) {
        for (int sense = 0; sense < counts.length; sense++) {
            x.setCount(sense, counts[sense]);
        }
    }

    /** A word for each row, with the senses of the row. */
    static void words(SenseNet x, int[]... rows) {
        for (int[] row : rows) {
            int word = x.addWord();
            for (int sense : row) {
                x.give(word, sense);
            }
        }
    }

    static void say(SenseNet x, int... words) {
        for (int word : words) {
            x.say(word);
        }
    }

    static int[] row(int... senses) {
        return senses;
    }
}
