import java.util.function.Supplier;

/**
 * Each reason for which a call is refused: the exception that is due, of several
 * the one named first, and that the refused call changes nothing. An object that
 * was refused a call is compared with its twin that was not asked for it.
 */
public final class RefusalsTest {
    private static final int MIN = Integer.MIN_VALUE;
    private static final int MAX = Integer.MAX_VALUE;

    private interface Act {
        int on(SenseNet x);
    }

    public static void main(String[] args) {
        addSense();
        link();
        linkOrder();
        unlink();
        remove();
        setCount();
        addWord();
        give();
        giveOrder();
        take();
        takeOrder();
        lock();
        say();
        asking();
        likeness();
        worths();
        chosen();
        Due.end();
    }

    private static void refused(String call, Supplier<SenseNet> state, Act act, String exception) {
        SenseNet x = state.get();
        Due.is(call, () -> act.on(x), exception);
        Due.compare("the net after the refused " + call, Probe.net(x), Probe.net(state.get()));
        SenseNet y = state.get();
        Due.is(call + " again", () -> act.on(y), exception);
        Due.compare("the words after the refused " + call, Probe.words(y), Probe.words(state.get()));
    }

    private static void out(String call, Supplier<SenseNet> state, Act act) {
        refused(call, state, act, Due.OUT);
    }

    private static void state(String call, Supplier<SenseNet> state, Act act) {
        refused(call, state, act, Due.STATE);
    }

    private static void argument(String call, Supplier<SenseNet> state, Act act) {
        refused(call, state, act, Due.ARGUMENT);
    }

    /** 0 has 4 parents; 5 below 1; 7 below 6, 6 below 1 and 5; 8 and 9 alone, 10 removed; two words, two places. */
    private static SenseNet some() {
        SenseNet x = Nets.linked(11, new int[] {0, 1}, new int[] {0, 2}, new int[] {0, 3}, new int[] {0, 4},
                new int[] {5, 1}, new int[] {6, 5}, new int[] {6, 1}, new int[] {7, 6}, new int[] {6, 10});
        Nets.counts(x, 1, 2, 4, 8, 16, 32, 64, 128, 256, 512, 1000);
        x.remove(10);
        Nets.words(x, Nets.row(5, 0, 7, 8, 6), Nets.row(8), Nets.row(), Nets.row(7, 5));
        x.lock(3, 5);
        Nets.say(x, 0, 1, 3);
        return x;
    }

    /** All senses, words and places that there can be. */
    private static SenseNet full() {
        SenseNet x = Nets.linked(30, new int[] {0, 28}, new int[] {1, 28}, new int[] {2, 29}, new int[] {28, 27});
        Nets.counts(x, 1, 2, 3, 4, 5);
        for (int word = 0; word < 10; word++) {
            Nets.words(x, Nets.row(word, word + 1, word + 2, word + 3, word + 4));
        }
        x.lock(9, 11);
        Nets.say(x, 0, 1, 2, 3, 4, 9);
        return x;
    }

    private static void addSense() {
        Due.sentence("addSense: Throws IllegalStateException if 30 were added");
        state("addSense()", RefusalsTest::full, SenseNet::addSense);
        state("addSense(), some being removed", () -> {
            SenseNet x = full();
            x.remove(29);
            x.remove(20);
            return x;
        }, SenseNet::addSense);
    }

    private static void link() {
        Due.sentence("link: Throws IndexOutOfBoundsException if there is no such sense");
        for (int no : new int[] {-1, 11, 29, 30, 31, 32, MAX, MIN}) {
            out("link(" + no + ", 8)", RefusalsTest::some, x -> x.link(no, 8));
            out("link(8, " + no + ")", RefusalsTest::some, x -> x.link(8, no));
        }
        out("link(10, 8), a removed sense", RefusalsTest::some, x -> x.link(10, 8));
        out("link(8, 10), a removed parent", RefusalsTest::some, x -> x.link(8, 10));
        Due.sentence("link: Throws IllegalStateException if it is a parent already, the sense has 4 parents, or some sense would be above itself");
        state("link(5, 1), a parent already", RefusalsTest::some, x -> x.link(5, 1));
        state("link(0, 4), a parent already and 4 parents", RefusalsTest::some, x -> x.link(0, 4));
        state("link(0, 8), 4 parents", RefusalsTest::some, x -> x.link(0, 8));
        state("link(8, 8), itself", RefusalsTest::some, x -> x.link(8, 8));
        state("link(0, 0), itself and 4 parents", RefusalsTest::some, x -> x.link(0, 0));
        state("link(1, 5), its child", RefusalsTest::some, x -> x.link(1, 5));
        state("link(1, 7), far below", RefusalsTest::some, x -> x.link(1, 7));
        state("link(5, 7), below by one way", RefusalsTest::some, x -> x.link(5, 7));
    }

    private static void linkOrder() {
        Due.sentence("link: If several exceptions apply, the one that is named first is thrown.");
        for (int no : new int[] {-1, 11, 10, 30, MAX, MIN}) {
            out("link(" + no + ", " + no + ")", RefusalsTest::some, x -> x.link(no, no));
            out("link(0, " + no + "), 4 parents", RefusalsTest::some, x -> x.link(0, no));
        }
        out("link(6, 10), once its parent", RefusalsTest::some, x -> x.link(6, 10));
    }

    private static void unlink() {
        Due.sentence("unlink: Throws IndexOutOfBoundsException if there is no such sense");
        for (int no : new int[] {-1, 11, 10, 29, 30, 32, MAX, MIN}) {
            out("unlink(" + no + ", 1)", RefusalsTest::some, x -> x.unlink(no, 1));
            out("unlink(6, " + no + ")", RefusalsTest::some, x -> x.unlink(6, no));
            out("unlink(" + no + ", " + no + ")", RefusalsTest::some, x -> x.unlink(no, no));
        }
        Due.sentence("unlink: Throws IllegalStateException if it is no parent of it");
        state("unlink(8, 9), no parents at all", RefusalsTest::some, x -> x.unlink(8, 9));
        state("unlink(0, 5), 4 others", RefusalsTest::some, x -> x.unlink(0, 5));
        state("unlink(1, 5), its child", RefusalsTest::some, x -> x.unlink(1, 5));
        state("unlink(7, 1), above but no parent", RefusalsTest::some, x -> x.unlink(7, 1));
        state("unlink(5, 5), itself", RefusalsTest::some, x -> x.unlink(5, 5));
    }

    /** 0 and 1 below 2, which has 2 parents; 0 has 2 others, 1 has 3 others. */
    private static SenseNet twoChildren() {
        SenseNet x = Nets.linked(9, new int[] {0, 2}, new int[] {1, 2}, new int[] {2, 3}, new int[] {2, 4},
                new int[] {0, 5}, new int[] {0, 6}, new int[] {1, 5}, new int[] {1, 6}, new int[] {1, 7});
        Nets.counts(x, 1, 2, 4, 8, 16, 32, 64, 128, 256);
        Nets.words(x, Nets.row(0, 8));
        x.say(0);
        return x;
    }

    private static void remove() {
        Due.sentence("remove: Throws IndexOutOfBoundsException if there is no such sense");
        for (int no : new int[] {-1, 11, 29, 30, 32, MAX, MIN}) {
            out("remove(" + no + ")", RefusalsTest::some, x -> x.remove(no));
        }
        out("remove(10), a removed one", RefusalsTest::some, x -> x.remove(10));
        Due.sentence("remove: Throws IllegalStateException if a word has it, or some sense would have more than 4 parents");
        state("remove(8), two words have it", RefusalsTest::some, x -> x.remove(8));
        state("remove(0), a word has it", RefusalsTest::some, x -> x.remove(0));
        state("remove(6), a word has it, its last one", RefusalsTest::some, x -> x.remove(6));
        state("remove(13), the last word has it", RefusalsTest::full, x -> x.remove(13));
        state("remove(2), the second child would have 5", RefusalsTest::twoChildren, x -> x.remove(2));
        state("remove(2), the first child would have 5", () -> {
            SenseNet x = twoChildren();
            x.unlink(1, 7);
            x.link(0, 7);
            return x;
        }, x -> x.remove(2));
        state("remove(0), the last sense would have 5", () -> {
            SenseNet x = Nets.linked(30, new int[] {0, 1}, new int[] {0, 2});
            for (int parent : new int[] {0, 3, 4, 5}) {
                x.link(29, parent);
            }
            return x;
        }, x -> x.remove(0));
        state("remove(2), both reasons", () -> {
            SenseNet x = twoChildren();
            x.give(0, 2);
            return x;
        }, x -> x.remove(2));
    }

    private static void setCount() {
        Due.sentence("setCount: Throws IndexOutOfBoundsException if there is no such sense");
        for (int no : new int[] {-1, 11, 10, 29, 30, 32, MAX, MIN}) {
            out("setCount(" + no + ", 5)", RefusalsTest::some, x -> x.setCount(no, 5));
        }
        Due.sentence("setCount: Throws IllegalArgumentException if count is out of range");
        for (int count : new int[] {-1, 1001, MAX, MIN}) {
            argument("setCount(5, " + count + ")", RefusalsTest::some, x -> x.setCount(5, count));
        }
        Due.sentence("setCount: If several exceptions apply, the one that is named first is thrown.");
        for (int count : new int[] {-1, 1001, MAX, MIN}) {
            out("setCount(10, " + count + "), a removed sense", RefusalsTest::some, x -> x.setCount(10, count));
            out("setCount(-1, " + count + ")", RefusalsTest::some, x -> x.setCount(-1, count));
        }
    }

    private static void addWord() {
        Due.sentence("addWord: Throws IllegalStateException if there are 10 words");
        state("addWord()", RefusalsTest::full, SenseNet::addWord);
        state("addWord(), the words having no senses", () -> {
            SenseNet x = new SenseNet();
            for (int word = 0; word < 10; word++) {
                x.addWord();
            }
            return x;
        }, SenseNet::addWord);
    }

    private static void give() {
        Due.sentence("give: Throws IndexOutOfBoundsException if there is no such word or sense");
        for (int no : new int[] {-1, 4, 9, 10, 11, 30, MAX, MIN}) {
            out("give(" + no + ", 9)", RefusalsTest::some, x -> x.give(no, 9));
        }
        for (int no : new int[] {-1, 11, 10, 29, 30, 32, MAX, MIN}) {
            out("give(1, " + no + ")", RefusalsTest::some, x -> x.give(1, no));
            out("give(2, " + no + "), no senses", RefusalsTest::some, x -> x.give(2, no));
        }
        Due.sentence("give: Throws IllegalStateException if the word has it, or has 5 senses");
        state("give(1, 8), it has it", RefusalsTest::some, x -> x.give(1, 8));
        state("give(3, 5), it has it and is locked to it", RefusalsTest::some, x -> x.give(3, 5));
        state("give(0, 9), 5 senses", RefusalsTest::some, x -> x.give(0, 9));
        state("give(0, 6), 5 senses and it has it", RefusalsTest::some, x -> x.give(0, 6));
        state("give(9, 29), the last word has 5", RefusalsTest::full, x -> x.give(9, 29));
    }

    private static void giveOrder() {
        Due.sentence("give: If several exceptions apply, the one that is named first is thrown.");
        for (int no : new int[] {-1, 11, 10, 30, MAX, MIN}) {
            out("give(0, " + no + "), 5 senses", RefusalsTest::some, x -> x.give(0, no));
            out("give(4, " + no + "), no word either", RefusalsTest::some, x -> x.give(4, no));
        }
    }

    private static void take() {
        Due.sentence("take: Throws IndexOutOfBoundsException if there is no such word or sense");
        for (int no : new int[] {-1, 4, 9, 10, 11, MAX, MIN}) {
            out("take(" + no + ", 8)", RefusalsTest::some, x -> x.take(no, 8));
        }
        for (int no : new int[] {-1, 11, 10, 29, 30, 32, MAX, MIN}) {
            out("take(0, " + no + ")", RefusalsTest::some, x -> x.take(0, no));
        }
        Due.sentence("take: Throws IllegalStateException if the word does not have it, or it is its only one and the word is in the sentence");
        state("take(0, 9), no word has it", RefusalsTest::some, x -> x.take(0, 9));
        state("take(3, 8), another word has it", RefusalsTest::some, x -> x.take(3, 8));
        state("take(2, 8), no senses", RefusalsTest::some, x -> x.take(2, 8));
        state("take(1, 8), its only one", RefusalsTest::some, x -> x.take(1, 8));
        state("take(1, 8), its only one and locked", () -> {
            SenseNet x = some();
            x.lock(1, 8);
            return x;
        }, x -> x.take(1, 8));
        for (int place = 0; place < 6; place++) {
            int only = place;
            state("take(1, 0), its only one, said at place " + place, () -> {
                SenseNet x = Nets.of(3);
                Nets.words(x, Nets.row(1, 2), Nets.row(0));
                for (int i = 0; i < 6; i++) {
                    x.say(i == only ? 1 : 0);
                }
                return x;
            }, x -> x.take(1, 0));
        }
    }

    private static void takeOrder() {
        Due.sentence("take: If several exceptions apply, the one that is named first is thrown.");
        for (int no : new int[] {-1, 11, 10, 30, MAX, MIN}) {
            out("take(1, " + no + "), one sense and said", RefusalsTest::some, x -> x.take(1, no));
            out("take(2, " + no + "), no senses", RefusalsTest::some, x -> x.take(2, no));
            out("take(4, " + no + "), no word either", RefusalsTest::some, x -> x.take(4, no));
        }
    }

    private static void lock() {
        Due.sentence("lock: Throws IndexOutOfBoundsException if there is no such word");
        for (int no : new int[] {-1, 4, 9, 10, 11, MAX, MIN}) {
            out("lock(" + no + ", -1)", RefusalsTest::some, x -> x.lock(no, -1));
            out("lock(" + no + ", 5)", RefusalsTest::some, x -> x.lock(no, 5));
        }
        Due.sentence("lock: Throws IllegalStateException if sense is not -1, and the word does not have it (also if there is no such sense)");
        for (int no : new int[] {-2, 11, 10, 29, 30, 31, 32, MAX, MIN}) {
            state("lock(3, " + no + "), no such sense", RefusalsTest::some, x -> x.lock(3, no));
            state("lock(2, " + no + "), no such sense, no senses", RefusalsTest::some, x -> x.lock(2, no));
        }
        state("lock(3, 9), no word has it", RefusalsTest::some, x -> x.lock(3, 9));
        state("lock(3, 8), another word has it", RefusalsTest::some, x -> x.lock(3, 8));
        state("lock(2, 0), no senses", RefusalsTest::some, x -> x.lock(2, 0));
        state("lock(0, 7), had once", () -> {
            SenseNet x = some();
            x.take(0, 7);
            return x;
        }, x -> x.lock(0, 7));
        state("lock(0, 6), had once as its last one", () -> {
            SenseNet x = some();
            x.take(0, 6);
            return x;
        }, x -> x.lock(0, 6));
        Due.sentence("lock: If several exceptions apply, the one that is named first is thrown.");
        for (int no : new int[] {-2, 10, 9, 30, MAX, MIN}) {
            out("lock(4, " + no + ")", RefusalsTest::some, x -> x.lock(4, no));
            out("lock(-1, " + no + ")", RefusalsTest::some, x -> x.lock(-1, no));
        }
    }

    private static void say() {
        Due.sentence("say: Throws IndexOutOfBoundsException if there is no such word");
        for (int no : new int[] {-1, 4, 9, 10, 11, MAX, MIN}) {
            out("say(" + no + ")", RefusalsTest::some, x -> x.say(no));
        }
        Due.sentence("say: Throws IllegalStateException if the sentence has 6 places, or the word has no senses");
        state("say(0), 6 places", RefusalsTest::full, x -> x.say(0));
        state("say(5), 6 places without it", RefusalsTest::full, x -> x.say(5));
        state("say(2), no senses", RefusalsTest::some, x -> x.say(2));
        state("say(1), no senses any more", () -> {
            SenseNet x = some();
            x.hush();
            x.take(1, 8);
            return x;
        }, x -> x.say(1));
        Supplier<SenseNet> both = () -> {
            SenseNet x = some();
            Nets.say(x, 0, 0, 0);
            return x;
        };
        state("say(2), no senses and 6 places", both, x -> x.say(2));
        Due.sentence("say: If several exceptions apply, the one that is named first is thrown.");
        for (int no : new int[] {-1, 4, 10, MAX, MIN}) {
            out("say(" + no + "), 6 places", both, x -> x.say(no));
        }
    }

    private static void asking() {
        Due.sentence("parents, above, below, mass, massByWalks, depth, shared, distance: Throws IndexOutOfBoundsException if there is no such sense");
        for (int no : new int[] {-1, 11, 10, 29, 30, 31, 32, MAX, MIN}) {
            out("parents(" + no + ")", RefusalsTest::some, x -> x.parents(no));
            out("above(" + no + ")", RefusalsTest::some, x -> x.above(no));
            out("below(" + no + ")", RefusalsTest::some, x -> x.below(no));
            out("mass(" + no + ")", RefusalsTest::some, x -> x.mass(no));
            out("massByWalks(" + no + ")", RefusalsTest::some, x -> x.massByWalks(no));
            out("depth(" + no + ")", RefusalsTest::some, x -> x.depth(no));
            out("shared(" + no + ", 0)", RefusalsTest::some, x -> x.shared(no, 0));
            out("shared(0, " + no + ")", RefusalsTest::some, x -> x.shared(0, no));
            out("shared(" + no + ", " + no + ")", RefusalsTest::some, x -> x.shared(no, no));
            out("distance(" + no + ", 0)", RefusalsTest::some, x -> x.distance(no, 0));
            out("distance(0, " + no + ")", RefusalsTest::some, x -> x.distance(0, no));
            out("distance(" + no + ", " + no + ")", RefusalsTest::some, x -> x.distance(no, no));
        }
    }

    private static void likeness() {
        Due.sentence("likeness: Throws IndexOutOfBoundsException if there is no such sense");
        for (int no : new int[] {-1, 11, 10, 29, 30, 31, 32, MAX, MIN}) {
            out("likeness(" + no + ", 0, 0)", RefusalsTest::some, x -> x.likeness(no, 0, 0));
            out("likeness(0, " + no + ", 2)", RefusalsTest::some, x -> x.likeness(0, no, 2));
            out("likeness(" + no + ", " + no + ", 1)", RefusalsTest::some, x -> x.likeness(no, no, 1));
        }
        Due.sentence("likeness: Throws IllegalArgumentException if measure is out of range");
        for (int no : new int[] {-1, 3, 4, MAX, MIN}) {
            argument("likeness(0, 5, " + no + ")", RefusalsTest::some, x -> x.likeness(0, 5, no));
            argument("likeness(8, 8, " + no + ")", RefusalsTest::some, x -> x.likeness(8, 8, no));
            argument("likeness(8, 9, " + no + "), none covers both", RefusalsTest::some, x -> x.likeness(8, 9, no));
        }
        Due.sentence("likeness: If several exceptions apply, the one that is named first is thrown.");
        for (int no : new int[] {-1, 3, MAX, MIN}) {
            out("likeness(11, 0, " + no + ")", RefusalsTest::some, x -> x.likeness(11, 0, no));
            out("likeness(0, 10, " + no + "), a removed sense", RefusalsTest::some, x -> x.likeness(0, 10, no));
            out("likeness(-1, 30, " + no + ")", RefusalsTest::some, x -> x.likeness(-1, 30, no));
        }
    }

    private static void worths() {
        Due.sentence("bestWorth, greatestWorth: Throws IllegalArgumentException if measure is out of range");
        for (int no : new int[] {-1, 3, 4, MAX, MIN}) {
            argument("bestWorth(" + no + ")", RefusalsTest::some, x -> x.bestWorth(no));
            argument("greatestWorth(" + no + ")", RefusalsTest::some, x -> x.greatestWorth(no));
            argument("bestWorth(" + no + "), 6 places", RefusalsTest::full, x -> x.bestWorth(no));
            argument("greatestWorth(" + no + "), 6 places", RefusalsTest::full, x -> x.greatestWorth(no));
            argument("bestWorth(" + no + "), a new object", SenseNet::new, x -> x.bestWorth(no));
            argument("greatestWorth(" + no + "), a new object", SenseNet::new, x -> x.greatestWorth(no));
        }
    }

    private static void chosen() {
        Due.sentence("chosen: Throws IndexOutOfBoundsException if there is no such place");
        for (int no : new int[] {-1, 3, 4, 5, 6, 7, MAX, MIN}) {
            out("chosen(" + no + ", 0)", RefusalsTest::some, x -> x.chosen(no, 0));
        }
        for (int no : new int[] {-1, 6, 7, MAX, MIN}) {
            out("chosen(" + no + ", 2), 6 places", RefusalsTest::full, x -> x.chosen(no, 2));
        }
        out("chosen(0, 0), a new object", SenseNet::new, x -> x.chosen(0, 0));
        out("chosen(0, 0), hushed", () -> {
            SenseNet x = some();
            x.hush();
            return x;
        }, x -> x.chosen(0, 0));
        Due.sentence("chosen: Throws IllegalArgumentException if measure is out of range");
        for (int no : new int[] {-1, 3, MAX, MIN}) {
            argument("chosen(0, " + no + ")", RefusalsTest::some, x -> x.chosen(0, no));
            argument("chosen(5, " + no + ")", RefusalsTest::full, x -> x.chosen(5, no));
        }
        Due.sentence("chosen: If several exceptions apply, the one that is named first is thrown.");
        for (int no : new int[] {-1, 3, MAX, MIN}) {
            out("chosen(3, " + no + ")", RefusalsTest::some, x -> x.chosen(3, no));
            out("chosen(-1, " + no + ")", RefusalsTest::some, x -> x.chosen(-1, no));
            out("chosen(0, " + no + "), a new object", SenseNet::new, x -> x.chosen(0, no));
        }
    }
}
