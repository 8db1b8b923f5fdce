/** Each promise by itself: ordinary inputs, the edges, wrong inputs. */
public final class PromisesTest {
    private static final int[] NO_SENSES = {-1, 2, 29, 30, 32, 64, Integer.MAX_VALUE, Integer.MIN_VALUE};
    private static final int[] NO_MEASURES = {-1, 3, Integer.MAX_VALUE, Integer.MIN_VALUE};

    public static void main(String[] args) {
        newObject();
        addSense();
        link();
        linkKeepsOrder();
        unlink();
        remove();
        removeRefused();
        setCount();
        addWord();
        give();
        take();
        lock();
        say();
        hush();
        sensesAndParents();
        aboveAndBelow();
        masses();
        depth();
        shared();
        sharedTies();
        distance();
        likeness();
        likenessEdges();
        choices();
        worths();
        greatestAskedFirst();
        ties();
        sameWordTwice();
        longestSentence();
        longestChain();
        Due.end();
    }

    private static void newObject() {
        SenseNet x = new SenseNet();
        Due.is(1, "senses", x::senses, 0);
        Due.is(1, "hush", x::hush, 0);
        Due.is(1, "choices", x::choices, 1);
        Due.is(1, "parents(0)", () -> x.parents(0), Due.OUT);
        Due.is(1, "say(0)", () -> x.say(0), Due.OUT);
        Due.is(1, "bestWorth(1)", () -> x.bestWorth(1), 0);
        Due.is(1, "first sense", x::addSense, 0);
        Due.is(1, "first word", x::addWord, 0);
        SenseNet y = new SenseNet();
        Due.is(1, "another object's senses", y::senses, 0);
    }

    private static void addSense() {
        SenseNet x = new SenseNet();
        for (int i = 0; i < 30; i++) {
            int number = i;
            Due.is(2, "addSense", x::addSense, number);
            Due.is(2, "parents of the new one", () -> x.parents(number), 0);
            Due.is(2, "mass of the new one", () -> x.mass(number), 0);
        }
        Due.is(2, "31st addSense", x::addSense, Due.STATE);
        Due.is(2, "senses", x::senses, (1 << 30) - 1);
        Due.is(2, "remove", () -> x.remove(7), 0);
        Due.is(2, "addSense after a removal: 30 were added in all", x::addSense, Due.STATE);
        SenseNet y = Nets.of(2);
        y.remove(1);
        Due.is(2, "numbers are not used again", y::addSense, 2);
    }

    private static void link() {
        SenseNet x = Nets.of(6);
        Due.is(3, "link", () -> x.link(0, 1), 1);
        Due.is(3, "link again", () -> x.link(0, 1), Due.STATE);
        Due.is(3, "second parent", () -> x.link(0, 2), 2);
        Due.is(3, "third parent", () -> x.link(0, 3), 3);
        Due.is(3, "fourth parent", () -> x.link(0, 4), 4);
        Due.is(3, "fifth parent", () -> x.link(0, 5), Due.STATE);
        Due.is(3, "parents", () -> x.parents(0), 0b11110);
        Due.is(3, "itself", () -> x.link(5, 5), Due.STATE);
        SenseNet y = Nets.of(2);
        for (int no : NO_SENSES) {
            Due.is(3, "link(" + no + ", 0)", () -> y.link(no, 0), Due.OUT);
            Due.is(3, "link(0, " + no + ")", () -> y.link(0, no), Due.OUT);
            Due.is(3, "link(" + no + ", " + no + ")", () -> y.link(no, no), Due.OUT);
        }
        y.remove(1);
        Due.is(3, "removed sense", () -> y.link(1, 0), Due.OUT);
        Due.is(3, "removed parent", () -> y.link(0, 1), Due.OUT);
    }

    private static void linkKeepsOrder() {
        SenseNet x = Nets.of(5);
        x.link(0, 1);
        x.link(1, 2);
        x.link(2, 3);
        Due.is(3, "below its child", () -> x.link(1, 0), Due.STATE);
        Due.is(3, "below a sense far below", () -> x.link(3, 0), Due.STATE);
        Due.is(3, "past a level", () -> x.link(0, 3), 2);
        Due.is(3, "parents unchanged", () -> x.parents(3), 0);
        x.unlink(1, 2);
        Due.is(3, "still above by the short way", () -> x.link(3, 0), Due.STATE);
        x.unlink(0, 3);
        Due.is(3, "free now", () -> x.link(3, 0), 1);
        Due.is(3, "above", () -> x.above(2), 0b1011);
    }

    private static void unlink() {
        SenseNet x = Nets.of(4);
        x.link(0, 1);
        x.link(0, 2);
        Due.is(4, "no parent", () -> x.unlink(0, 3), Due.STATE);
        Due.is(4, "the wrong way round", () -> x.unlink(1, 0), Due.STATE);
        Due.is(4, "itself", () -> x.unlink(0, 0), Due.STATE);
        Due.is(4, "unlink", () -> x.unlink(0, 1), 1);
        Due.is(4, "again", () -> x.unlink(0, 1), Due.STATE);
        Due.is(4, "parents", () -> x.parents(0), 0b100);
        Due.is(4, "below", () -> x.below(1), 0);
        Due.is(4, "the last one", () -> x.unlink(0, 2), 0);
        Due.is(4, "depth", () -> x.depth(0), 0);
        x.link(0, 1);
        x.link(1, 2);
        Due.is(4, "above but no parent", () -> x.unlink(0, 2), Due.STATE);
        SenseNet y = Nets.of(2);
        for (int no : NO_SENSES) {
            Due.is(4, "unlink(" + no + ", 0)", () -> y.unlink(no, 0), Due.OUT);
            Due.is(4, "unlink(0, " + no + ")", () -> y.unlink(0, no), Due.OUT);
        }
    }

    private static void remove() {
        SenseNet x = Nets.of(7);
        x.link(0, 2);
        x.link(1, 2);
        x.link(1, 3);
        x.link(2, 3);
        x.link(2, 4);
        x.link(5, 3);
        x.setCount(2, 9);
        x.setCount(1, 1);
        Due.is(5, "mass before", () -> x.mass(4), 10);
        Due.is(5, "remove", () -> x.remove(2), 2);
        Due.is(5, "its parents come", () -> x.parents(0), 0b11000);
        Due.is(5, "those not had already", () -> x.parents(1), 0b11000);
        Due.is(5, "no others", () -> x.parents(5), 0b1000);
        Due.is(5, "below", () -> x.below(4), 0b11);
        Due.is(5, "the count goes with it", () -> x.mass(4), 1);
        Due.is(5, "so it does from walks", () -> x.massByWalks(4), 1);
        Due.is(5, "and from the whole", () -> x.likeness(1, 1, 2), 0);
        Due.is(5, "senses", x::senses, 0b1111011);
        Due.is(5, "again", () -> x.remove(2), Due.OUT);
        Due.is(5, "a top", () -> x.remove(3), 3);
        Due.is(5, "parents below a top", () -> x.parents(5), 0);
        Due.is(5, "parents below a top, another left", () -> x.parents(1), 0b10000);
        Due.is(5, "no parent of any", () -> x.remove(6), 0);
        Due.is(5, "a bottom", () -> x.remove(0), 0);
        SenseNet y = Nets.of(2);
        for (int no : NO_SENSES) {
            Due.is(5, "remove(" + no + ")", () -> y.remove(no), Due.OUT);
        }
    }

    private static void removeRefused() {
        SenseNet x = Nets.of(8);
        for (int parent = 1; parent <= 4; parent++) {
            x.link(0, parent);
        }
        x.link(4, 5);
        x.link(4, 3);
        x.link(7, 4);
        Due.is(5, "one for one, one had already", () -> x.parents(0), 0b11110);
        x.link(4, 6);
        Due.is(5, "5 parents", () -> x.remove(4), Due.STATE);
        Due.is(5, "nothing changed", () -> x.parents(7), 0b10000);
        Due.is(5, "nothing changed there", x::senses, 0b11111111);
        Nets.words(x, new int[] {5, 7});
        Due.is(5, "a word has it", () -> x.remove(7), Due.STATE);
        Due.is(5, "a word has it, and children", () -> x.remove(5), Due.STATE);
        x.unlink(4, 6);
        Due.is(5, "4 parents", () -> x.remove(4), 2);
        Due.is(5, "parents then", () -> x.parents(0), 0b101110);
        x.take(0, 7);
        Due.is(5, "no word has it any more", () -> x.remove(7), 0);
    }

    private static void setCount() {
        SenseNet x = Nets.of(2);
        Due.is(6, "first", () -> x.setCount(0, 1000), 0);
        Due.is(6, "second", () -> x.setCount(0, 7), 1000);
        Due.is(6, "too many", () -> x.setCount(0, 1001), Due.ARGUMENT);
        Due.is(6, "below zero", () -> x.setCount(0, -1), Due.ARGUMENT);
        Due.is(6, "least", () -> x.setCount(0, Integer.MIN_VALUE), Due.ARGUMENT);
        Due.is(6, "kept", () -> x.mass(0), 7);
        Due.is(6, "zero", () -> x.setCount(0, 0), 7);
        Due.is(6, "the other one", () -> x.setCount(1, 3), 0);
        for (int no : NO_SENSES) {
            Due.is(6, "setCount(" + no + ", 1)", () -> x.setCount(no, 1), Due.OUT);
            Due.is(6, "setCount(" + no + ", -1)", () -> x.setCount(no, -1), Due.OUT);
        }
    }

    private static void addWord() {
        SenseNet x = Nets.of(1);
        for (int i = 0; i < 10; i++) {
            int number = i;
            Due.is(7, "addWord", x::addWord, number);
            Due.is(7, "without senses", () -> x.say(number), Due.STATE);
            Due.is(7, "not locked", () -> x.lock(number, -1), -1);
        }
        Due.is(7, "11th word", x::addWord, Due.STATE);
        Due.is(7, "no such word", () -> x.say(10), Due.OUT);
    }

    private static void give() {
        SenseNet x = Nets.of(7);
        Nets.words(x, new int[] {}, new int[] {});
        for (int i = 0; i < 5; i++) {
            int sense = 4 - i;
            Due.is(8, "give", () -> x.give(0, sense), i + 1);
            Due.is(8, "give again", () -> x.give(0, sense), Due.STATE);
        }
        Due.is(8, "sixth", () -> x.give(0, 5), Due.STATE);
        Due.is(8, "the other word", () -> x.give(1, 5), 1);
        Due.is(8, "the same sense to two words", () -> x.give(1, 4), 2);
        x.remove(6);
        Due.is(8, "removed sense", () -> x.give(1, 6), Due.OUT);
        for (int no : new int[] {-1, 7, 30, Integer.MAX_VALUE, Integer.MIN_VALUE}) {
            Due.is(8, "give(0, " + no + ")", () -> x.give(0, no), Due.OUT);
            Due.is(8, "give(" + no + ", 0)", () -> x.give(no, 0), Due.OUT);
        }
        Due.is(8, "give(2, 0)", () -> x.give(2, 0), Due.OUT);
        x.say(0);
        Due.is(8, "five choices", x::choices, 5);
        Due.is(8, "the first one given comes first", () -> x.chosen(0, 0), 4);
    }

    private static void take() {
        SenseNet x = Nets.of(6);
        Nets.words(x, new int[] {3, 1, 2}, new int[] {0});
        x.lock(0, 3);
        Due.is(9, "a sense not had", () -> x.take(0, 0), Due.STATE);
        Due.is(9, "take of another keeps the lock", () -> x.take(0, 1), 2);
        x.say(0);
        Due.is(9, "locked", x::choices, 1);
        Due.is(9, "take of the locked one", () -> x.take(0, 3), 1);
        Due.is(9, "not locked any more", () -> x.lock(0, -1), -1);
        Due.is(9, "the one that is left", () -> x.chosen(0, 0), 2);
        Due.is(9, "the only one of a said word", () -> x.take(0, 2), Due.STATE);
        Due.is(9, "the only one of a word not said", () -> x.take(1, 0), 0);
        Due.is(9, "none is left", () -> x.take(1, 0), Due.STATE);
        x.hush();
        Due.is(9, "after hush", () -> x.take(0, 2), 0);
        for (int sense : new int[] {5, 4, 3, 2, 1}) {
            x.give(0, sense);
        }
        Due.is(9, "from the front", () -> x.take(0, 5), 4);
        Due.is(9, "from the middle", () -> x.take(0, 3), 3);
        Due.is(9, "from the end", () -> x.take(0, 1), 2);
        Due.is(9, "given again, it stands last", () -> x.give(0, 5), 3);
        x.say(0);
        Due.is(9, "order", () -> x.chosen(0, 1), 4);
        x.take(0, 4);
        Due.is(9, "order after another", () -> x.chosen(0, 1), 2);
        Due.is(9, "removed sense", () -> x.remove(3) * 0 + x.take(0, 3), Due.OUT);
        for (int no : new int[] {-1, 6, 30, Integer.MAX_VALUE, Integer.MIN_VALUE}) {
            Due.is(9, "take(0, " + no + ")", () -> x.take(0, no), Due.OUT);
            Due.is(9, "take(" + no + ", 2)", () -> x.take(no, 2), Due.OUT);
        }
    }

    private static void lock() {
        SenseNet x = Nets.of(4);
        Nets.words(x, new int[] {0, 1, 2}, new int[] {1, 3});
        Due.is(10, "lock", () -> x.lock(0, 1), -1);
        Due.is(10, "lock to another", () -> x.lock(0, 2), 1);
        Due.is(10, "a sense not had", () -> x.lock(0, 3), Due.STATE);
        Due.is(10, "no such sense", () -> x.lock(0, 4), Due.STATE);
        Due.is(10, "-2", () -> x.lock(0, -2), Due.STATE);
        Due.is(10, "greatest", () -> x.lock(0, Integer.MAX_VALUE), Due.STATE);
        Due.is(10, "still locked", () -> x.lock(0, 2), 2);
        Due.is(10, "the other word is not", () -> x.lock(1, -1), -1);
        x.say(0);
        x.say(1);
        Due.is(10, "choices when locked", x::choices, 2);
        Due.is(10, "chosen when locked", () -> x.chosen(0, 0), 2);
        x.give(0, 3);
        Due.is(10, "given while locked", x::choices, 2);
        Due.is(10, "unlock", () -> x.lock(0, -1), 2);
        Due.is(10, "unlocked", x::choices, 8);
        for (int no : new int[] {-1, 2, 10, Integer.MAX_VALUE, Integer.MIN_VALUE}) {
            Due.is(10, "lock(" + no + ", -1)", () -> x.lock(no, -1), Due.OUT);
            Due.is(10, "lock(" + no + ", 9)", () -> x.lock(no, 9), Due.OUT);
        }
    }

    private static void say() {
        SenseNet x = Nets.of(2);
        Nets.words(x, new int[] {0}, new int[] {});
        Due.is(11, "no senses", () -> x.say(1), Due.STATE);
        for (int i = 1; i <= 6; i++) {
            Due.is(11, "say", () -> x.say(0), i);
        }
        Due.is(11, "7th place", () -> x.say(0), Due.STATE);
        Due.is(11, "places", () -> x.chosen(5, 0), 0);
        Due.is(11, "no 7th place", () -> x.chosen(6, 0), Due.OUT);
        for (int no : new int[] {-1, 2, 10, Integer.MAX_VALUE, Integer.MIN_VALUE}) {
            Due.is(11, "say(" + no + ")", () -> x.say(no), Due.OUT);
        }
        x.hush();
        x.take(0, 0);
        Due.is(11, "no senses any more", () -> x.say(0), Due.STATE);
    }

    private static void hush() {
        SenseNet x = Nets.of(2);
        Nets.words(x, new int[] {0, 1});
        Due.is(12, "empty", x::hush, 0);
        x.say(0);
        x.say(0);
        Due.is(12, "two places", x::hush, 2);
        Due.is(12, "again", x::hush, 0);
        Due.is(12, "choices", x::choices, 1);
        Due.is(12, "worth", () -> x.bestWorth(0), 0);
        Due.is(12, "no place", () -> x.chosen(0, 0), Due.OUT);
        Due.is(12, "words stay", () -> x.say(0), 1);
    }

    private static void sensesAndParents() {
        SenseNet x = Nets.of(30);
        x.link(0, 29);
        x.link(0, 1);
        x.link(1, 28);
        Due.is(13, "all 30", x::senses, 0x3fffffff);
        Due.is(14, "parents", () -> x.parents(0), 1 << 29 | 1 << 1);
        Due.is(14, "no parents", () -> x.parents(29), 0);
        x.remove(29);
        Due.is(13, "one removed", x::senses, 0x1fffffff);
        Due.is(14, "a parent removed", () -> x.parents(0), 1 << 1);
        Due.is(14, "removed", () -> x.parents(29), Due.OUT);
        for (int no : new int[] {-1, 30, 31, 32, 61, Integer.MAX_VALUE, Integer.MIN_VALUE}) {
            Due.is(14, "parents(" + no + ")", () -> x.parents(no), Due.OUT);
            Due.is(15, "above(" + no + ")", () -> x.above(no), Due.OUT);
            Due.is(16, "below(" + no + ")", () -> x.below(no), Due.OUT);
            Due.is(17, "mass(" + no + ")", () -> x.mass(no), Due.OUT);
            Due.is(18, "massByWalks(" + no + ")", () -> x.massByWalks(no), Due.OUT);
            Due.is(19, "depth(" + no + ")", () -> x.depth(no), Due.OUT);
            Due.is(20, "shared(" + no + ", 0)", () -> x.shared(no, 0), Due.OUT);
            Due.is(20, "shared(0, " + no + ")", () -> x.shared(0, no), Due.OUT);
            Due.is(21, "distance(" + no + ", 0)", () -> x.distance(no, 0), Due.OUT);
            Due.is(21, "distance(0, " + no + ")", () -> x.distance(0, no), Due.OUT);
            Due.is(22, "likeness(" + no + ", 0, 0)", () -> x.likeness(no, 0, 0), Due.OUT);
            Due.is(22, "likeness(0, " + no + ", 3)", () -> x.likeness(0, no, 3), Due.OUT);
        }
        Due.is(15, "removed", () -> x.above(29), Due.OUT);
        Due.is(16, "removed", () -> x.below(29), Due.OUT);
        Due.is(17, "removed", () -> x.mass(29), Due.OUT);
        Due.is(18, "removed", () -> x.massByWalks(29), Due.OUT);
        Due.is(19, "removed", () -> x.depth(29), Due.OUT);
        Due.is(20, "removed", () -> x.shared(0, 29), Due.OUT);
        Due.is(21, "removed", () -> x.distance(29, 29), Due.OUT);
        Due.is(22, "removed", () -> x.likeness(29, 0, 0), Due.OUT);
    }

    /** 0 below 1 and 2, both below 3; 3 and 5 below 4. */
    private static SenseNet diamond() {
        SenseNet x = Nets.of(6);
        x.link(0, 1);
        x.link(0, 2);
        x.link(1, 3);
        x.link(2, 3);
        x.link(3, 4);
        x.link(5, 4);
        for (int sense = 0; sense < 6; sense++) {
            x.setCount(sense, 1 << sense);
        }
        return x;
    }

    private static void aboveAndBelow() {
        SenseNet x = diamond();
        Due.is(15, "above a bottom", () -> x.above(0), 0b11110);
        Due.is(15, "above the middle", () -> x.above(3), 0b10000);
        Due.is(15, "above a top", () -> x.above(4), 0);
        Due.is(16, "below a top", () -> x.below(4), 0b101111);
        Due.is(16, "below the middle", () -> x.below(3), 0b111);
        Due.is(16, "below a bottom", () -> x.below(0), 0);
        x.unlink(3, 4);
        Due.is(15, "above after a cut", () -> x.above(0), 0b1110);
        Due.is(16, "below after a cut", () -> x.below(4), 0b100000);
    }

    private static void masses() {
        SenseNet x = diamond();
        int[] due = {1, 3, 5, 15, 63, 32};
        for (int i = 0; i < due.length; i++) {
            int sense = i;
            Due.is(17, "mass(" + sense + "), each once", () -> x.mass(sense), due[sense]);
            Due.is(18, "massByWalks(" + sense + "), each once", () -> x.massByWalks(sense), due[sense]);
            Due.is(18, "asked again", () -> x.massByWalks(sense), due[sense]);
        }
        x.setCount(0, 1000);
        Due.is(17, "mass after a new count", () -> x.mass(4), 1062);
        Due.is(18, "massByWalks after a new count", () -> x.massByWalks(4), 1062);
        x.unlink(0, 1);
        Due.is(17, "mass by the other way", () -> x.mass(3), 1014);
        x.unlink(0, 2);
        Due.is(17, "mass after the cut", () -> x.mass(3), 14);
        Due.is(18, "massByWalks after the cut", () -> x.massByWalks(3), 14);
    }

    private static void depth() {
        SenseNet x = Nets.of(6);
        Due.is(19, "alone", () -> x.depth(0), 0);
        x.link(0, 1);
        x.link(1, 2);
        x.link(2, 3);
        Due.is(19, "a chain", () -> x.depth(0), 3);
        x.link(0, 4);
        x.link(4, 5);
        Due.is(19, "the shorter way", () -> x.depth(0), 2);
        x.link(0, 3);
        Due.is(19, "the shortest way", () -> x.depth(0), 1);
        Due.is(19, "the others as before", () -> x.depth(1), 2);
        Due.is(19, "a top", () -> x.depth(3), 0);
        x.unlink(0, 3);
        x.link(3, 5);
        Due.is(19, "to the only top", () -> x.depth(1), 3);
    }

    private static void shared() {
        SenseNet x = diamond();
        Due.is(20, "itself", () -> x.shared(0, 0), 0);
        Due.is(20, "one above the other", () -> x.shared(0, 3), 3);
        Due.is(20, "the other way round", () -> x.shared(3, 0), 3);
        Due.is(20, "brothers", () -> x.shared(1, 2), 3);
        Due.is(20, "far", () -> x.shared(0, 5), 4);
        x.unlink(5, 4);
        Due.is(20, "none", () -> x.shared(0, 5), -1);
        SenseNet y = Nets.of(5);
        y.link(0, 2);
        y.link(1, 2);
        y.link(0, 3);
        y.link(1, 3);
        y.link(4, 2);
        y.setCount(4, 1);
        Due.is(20, "least mass", () -> y.shared(0, 1), 3);
        y.setCount(4, 0);
        Due.is(20, "same mass, same depth, lowest number", () -> y.shared(0, 1), 2);
    }

    private static void sharedTies() {
        SenseNet x = Nets.of(6);
        x.link(0, 2);
        x.link(1, 2);
        x.link(0, 3);
        x.link(1, 3);
        x.link(3, 4);
        Due.is(20, "same mass, greatest depth", () -> x.shared(0, 1), 3);
        x.setCount(5, 1);
        x.link(5, 3);
        Due.is(20, "mass goes before depth", () -> x.shared(0, 1), 2);
        SenseNet y = Nets.of(2);
        y.link(0, 1);
        y.setCount(0, 8);
        Due.is(20, "same mass above itself", () -> y.shared(0, 0), 0);
        SenseNet z = Nets.of(5);
        z.link(0, 1);
        z.link(1, 2);
        z.link(2, 3);
        z.link(0, 4);
        Due.is(20, "a way past: the shared sense is deeper than the two", () -> z.shared(0, 0), 1);
        Due.is(22, "so it is cut to 10000", () -> z.likeness(0, 0, 1), 10000);
    }

    private static void distance() {
        SenseNet x = diamond();
        Due.is(21, "itself", () -> x.distance(0, 0), 0);
        Due.is(21, "to a parent", () -> x.distance(0, 1), 1);
        Due.is(21, "from a parent", () -> x.distance(1, 0), 1);
        Due.is(21, "brothers", () -> x.distance(1, 2), 2);
        Due.is(21, "far", () -> x.distance(0, 5), 4);
        x.link(0, 4);
        Due.is(21, "a way past", () -> x.distance(0, 5), 2);
        Due.is(21, "not by the shared sense", () -> x.distance(0, 3), 2);
        x.unlink(5, 4);
        Due.is(21, "none", () -> x.distance(0, 5), -1);
        SenseNet y = Nets.of(6);
        y.link(0, 2);
        y.link(2, 3);
        y.link(1, 3);
        y.link(0, 4);
        y.link(1, 4);
        y.link(5, 4);
        y.setCount(5, 9);
        Due.is(20, "the shared sense has the least mass", () -> y.shared(0, 1), 3);
        Due.is(21, "the nearest cover is another", () -> y.distance(0, 1), 2);
    }

    private static void likeness() {
        SenseNet x = diamond();
        Due.is(22, "measure 0, itself", () -> x.likeness(0, 0, 0), 10000);
        Due.is(22, "measure 0, a step", () -> x.likeness(0, 1, 0), 5000);
        Due.is(22, "measure 0, rounded down", () -> x.likeness(1, 2, 0), 3333);
        Due.is(22, "measure 0, far", () -> x.likeness(0, 5, 0), 2000);
        Due.is(22, "measure 1, itself", () -> x.likeness(0, 0, 1), 10000);
        Due.is(22, "measure 1, brothers", () -> x.likeness(1, 2, 1), 6666);
        Due.is(22, "measure 1, far", () -> x.likeness(0, 5, 1), 3333);
        Due.is(22, "measure 1, above", () -> x.likeness(3, 0, 1), 6666);
        Due.is(22, "measure 2, itself", () -> x.likeness(0, 0, 2), 9841);
        Due.is(22, "measure 2, brothers", () -> x.likeness(1, 2, 2), 7619);
        Due.is(22, "measure 2, far", () -> x.likeness(0, 5, 2), 0);
        x.unlink(5, 4);
        for (int measure = 0; measure < 3; measure++) {
            int by = measure;
            Due.is(22, "none covers both", () -> x.likeness(0, 5, by), 0);
        }
        for (int no : NO_MEASURES) {
            Due.is(22, "measure " + no, () -> x.likeness(0, 5, no), Due.ARGUMENT);
            Due.is(22, "no sense and measure " + no, () -> x.likeness(6, 0, no), Due.OUT);
            Due.is(22, "no other sense and measure " + no, () -> x.likeness(0, 6, no), Due.OUT);
        }
    }

    private static void likenessEdges() {
        SenseNet x = Nets.of(30);
        Due.is(22, "the whole is 0", () -> x.likeness(0, 0, 2), 0);
        for (int i = 0; i < 30; i++) {
            x.setCount(i, 1000);
        }
        Due.is(22, "greatest whole", () -> x.likeness(0, 0, 2), 9666);
        x.setCount(0, 0);
        Due.is(22, "no mass", () -> x.likeness(0, 0, 2), 10000);
        x.setCount(0, 1);
        Due.is(22, "just below", () -> x.likeness(0, 0, 2), 9999);
    }

    private static void choices() {
        SenseNet x = Nets.of(5);
        Nets.words(x, new int[] {0, 1, 2, 3, 4}, new int[] {0, 1}, new int[] {3});
        x.say(0);
        Due.is(23, "one place", x::choices, 5);
        x.say(1);
        x.say(2);
        Due.is(23, "three places", x::choices, 10);
        x.say(0);
        Due.is(23, "a word twice", x::choices, 50);
        x.lock(0, 2);
        Due.is(23, "locked at both places", x::choices, 2);
        x.lock(0, -1);
        x.take(0, 4);
        Due.is(23, "a sense less", x::choices, 32);
        x.hush();
        Due.is(23, "empty", x::choices, 1);
        for (int i = 0; i < 6; i++) {
            x.say(1);
        }
        Due.is(23, "six places", x::choices, 64);
    }

    private static void worths() {
        SenseNet x = diamond();
        Nets.words(x, new int[] {0, 5}, new int[] {1, 2}, new int[] {5, 4});
        x.say(0);
        for (int measure = 0; measure < 3; measure++) {
            int by = measure;
            Due.is(24, "one place", () -> x.bestWorth(by), 0);
            Due.is(25, "one place", () -> x.greatestWorth(by), 0);
            Due.is(26, "one place", () -> x.chosen(0, by), 0);
        }
        x.say(1);
        x.say(2);
        // 5, 1, 5: 2500 + 10000 + 2500; 5, 1, 4: 2500 + 5000 + 3333.
        Due.is(24, "measure 0", () -> x.bestWorth(0), 15000);
        Due.is(25, "measure 0", () -> x.greatestWorth(0), 15000);
        Due.is(26, "first", () -> x.chosen(0, 0), 5);
        Due.is(26, "second", () -> x.chosen(1, 0), 1);
        Due.is(26, "third", () -> x.chosen(2, 0), 5);
        x.lock(2, 4);
        // 0, 1, 4: 5000 + 2500 + 3333; 5, 1, 4: 2500 + 5000 + 3333.
        Due.is(24, "locked", () -> x.bestWorth(0), 10833);
        Due.is(25, "locked", () -> x.greatestWorth(0), 10833);
        Due.is(26, "first of the same worth", () -> x.chosen(0, 0), 0);
        Due.is(26, "the locked one", () -> x.chosen(2, 0), 4);
        for (int no : NO_MEASURES) {
            Due.is(24, "measure " + no, () -> x.bestWorth(no), Due.ARGUMENT);
            Due.is(25, "measure " + no, () -> x.greatestWorth(no), Due.ARGUMENT);
            Due.is(26, "measure " + no, () -> x.chosen(0, no), Due.ARGUMENT);
            Due.is(26, "no place and measure " + no, () -> x.chosen(3, no), Due.OUT);
        }
        for (int no : new int[] {-1, 3, 6, Integer.MAX_VALUE, Integer.MIN_VALUE}) {
            Due.is(26, "place " + no, () -> x.chosen(no, 0), Due.OUT);
        }
    }

    private static void greatestAskedFirst() {
        SenseNet x = diamond();
        Nets.words(x, new int[] {0, 3, 5}, new int[] {1, 5}, new int[] {2, 4});
        for (int word = 0; word < 3; word++) {
            x.say(word);
        }
        // 5, 5, 4: 10000 + 5000 + 5000; the first senses: 5000 + 5000 + 3333.
        Due.is(25, "nothing asked before", () -> x.greatestWorth(0), 20000);
        Due.is(24, "the same", () -> x.bestWorth(0), 20000);
    }

    private static void ties() {
        SenseNet x = Nets.of(4);
        Nets.words(x, new int[] {2, 0, 1}, new int[] {3, 1, 0});
        x.say(0);
        x.say(1);
        Due.is(24, "two of the same worth", () -> x.bestWorth(0), 10000);
        Due.is(26, "the first place decides", () -> x.chosen(0, 0), 0);
        Due.is(26, "then the second", () -> x.chosen(1, 0), 0);
        x.take(0, 0);
        x.give(0, 0);
        Due.is(26, "by the order of the word", () -> x.chosen(0, 0), 1);
        Due.is(26, "and the second", () -> x.chosen(1, 0), 1);
        Due.is(26, "no worth at all: the first of each", () -> x.chosen(0, 2), 2);
        Due.is(26, "and of the second", () -> x.chosen(1, 2), 3);
        Due.is(24, "no worth", () -> x.bestWorth(2), 0);
        Due.is(25, "no worth", () -> x.greatestWorth(2), 0);
    }

    private static void sameWordTwice() {
        SenseNet x = Nets.of(3);
        x.link(0, 2);
        x.setCount(0, 1);
        x.setCount(1, 8);
        Nets.words(x, new int[] {2, 0}, new int[] {1});
        x.say(0);
        x.say(0);
        Due.is(24, "a word with itself", () -> x.bestWorth(0), 10000);
        Due.is(26, "the first sense", () -> x.chosen(1, 0), 2);
        x.lock(0, 0);
        Due.is(26, "locked", () -> x.chosen(0, 0), 0);
        Due.is(26, "locked at both", () -> x.chosen(1, 0), 0);
    }

    private static void longestSentence() {
        SenseNet x = Nets.of(30);
        for (int word = 0; word < 6; word++) {
            x.addWord();
            for (int rank = 0; rank < 5; rank++) {
                x.give(word, (word * 5 + rank * 7) % 30);
            }
            x.say(word);
        }
        Due.is(23, "most choices", x::choices, 15625);
        int best = x.bestWorth(0);
        Due.is(25, "the same worth", () -> x.greatestWorth(0), best);
        x.hush();
        for (int place = 0; place < 6; place++) {
            x.say(3);
        }
        Due.is(24, "greatest of all worths", () -> x.bestWorth(0), 150000);
        Due.is(25, "greatest of all worths", () -> x.greatestWorth(0), 150000);
        Due.is(26, "the first sense everywhere", () -> x.chosen(5, 0), 15);
    }

    private static void longestChain() {
        SenseNet x = Nets.of(30);
        for (int sense = 0; sense < 29; sense++) {
            x.link(sense, sense + 1);
        }
        for (int sense = 0; sense < 30; sense++) {
            x.setCount(sense, 1000);
        }
        Due.is(3, "the top below the bottom", () -> x.link(29, 0), Due.STATE);
        Due.is(15, "above", () -> x.above(0), 0x3ffffffe);
        Due.is(16, "below", () -> x.below(29), 0x1fffffff);
        Due.is(17, "mass", () -> x.mass(29), 30000);
        Due.is(18, "massByWalks", () -> x.massByWalks(29), 30000);
        Due.is(19, "depth", () -> x.depth(0), 29);
        Due.is(20, "shared", () -> x.shared(0, 29), 29);
        Due.is(21, "distance", () -> x.distance(0, 29), 29);
        Due.is(22, "measure 0", () -> x.likeness(0, 29, 0), 333);
        Due.is(22, "measure 1", () -> x.likeness(0, 29, 1), 645);
        Due.is(22, "measure 2", () -> x.likeness(0, 29, 2), 0);
    }
}
