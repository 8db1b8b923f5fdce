/**
 * What each promise says that a call does and answers, at its edges: the least
 * and the most, nothing and all, one less than a limit and the limit. What is
 * refused stands in RefusalsTest, what 'Terms' says in TermsTest.
 */
public final class EdgesTest {
    private static final int ALL = 0x3fffffff;

    public static void main(String[] args) {
        newObject();
        objectsApart();
        addSense();
        link();
        unlink();
        removeAnswers();
        removeGivesParents();
        removeLeavesNothing();
        setCount();
        addWord();
        give();
        take();
        takeUnlocks();
        lock();
        say();
        hush();
        sets();
        masses();
        depth();
        shared();
        distance();
        likeness();
        choices();
        fewerThanTwoPlaces();
        bothWorths();
        shorterSentence();
        chosen();
        the512thCall();
        Due.end();
    }

    private static void newObject() {
        Due.sentence("1: No senses, words and no sentence.");
        SenseNet x = new SenseNet();
        Due.is("senses", x::senses, 0);
        Due.is("choices", x::choices, 1);
        Due.is("hush", x::hush, 0);
        for (int number : new int[] {-1, 0, 1, 29, 30}) {
            Due.is("parents(" + number + ")", () -> x.parents(number), Due.OUT);
            Due.is("above(" + number + ")", () -> x.above(number), Due.OUT);
            Due.is("below(" + number + ")", () -> x.below(number), Due.OUT);
            Due.is("mass(" + number + ")", () -> x.mass(number), Due.OUT);
            Due.is("massByWalks(" + number + ")", () -> x.massByWalks(number), Due.OUT);
            Due.is("depth(" + number + ")", () -> x.depth(number), Due.OUT);
            Due.is("shared(" + number + ")", () -> x.shared(number, number), Due.OUT);
            Due.is("distance(" + number + ")", () -> x.distance(number, number), Due.OUT);
            Due.is("likeness(" + number + ")", () -> x.likeness(number, number, 0), Due.OUT);
            Due.is("link(" + number + ")", () -> x.link(number, number), Due.OUT);
            Due.is("unlink(" + number + ")", () -> x.unlink(number, number), Due.OUT);
            Due.is("remove(" + number + ")", () -> x.remove(number), Due.OUT);
            Due.is("setCount(" + number + ")", () -> x.setCount(number, 0), Due.OUT);
            Due.is("give(" + number + ")", () -> x.give(number, number), Due.OUT);
            Due.is("take(" + number + ")", () -> x.take(number, number), Due.OUT);
            Due.is("lock(" + number + ")", () -> x.lock(number, -1), Due.OUT);
            Due.is("say(" + number + ")", () -> x.say(number), Due.OUT);
            Due.is("chosen(" + number + ")", () -> x.chosen(number, 0), Due.OUT);
        }
        Due.is("the first word", x::addWord, 0);
        Due.is("the first sense", x::addSense, 0);
    }

    private static void objectsApart() {
        Due.sentence("1: A new object");
        SenseNet x = Nets.chain(30);
        Nets.words(x, Nets.row(0, 1), Nets.row(2));
        x.lock(0, 1);
        Nets.say(x, 0, 1);
        SenseNet y = new SenseNet();
        Due.is("no senses beside a full one", y::senses, 0);
        Due.is("no places beside one that speaks", y::hush, 0);
        y.addSense();
        y.addSense();
        y.addWord();
        Due.is("no links", () -> y.parents(0), 0);
        Due.is("no senses of words", () -> y.say(0), Due.STATE);
        Due.is("no locks", () -> y.lock(0, -1), -1);
        y.give(0, 1);
        y.say(0);
        Due.is("the first one keeps its places", () -> x.chosen(1, 0), 2);
        Due.is("and its worth", () -> x.bestWorth(0), 5000);
    }

    private static void addSense() {
        Due.sentence("2: Adds a sense without parents. Returns its number.");
        SenseNet x = new SenseNet();
        for (int sense = 0; sense < 30; sense++) {
            int each = sense;
            Due.is("addSense", x::addSense, each);
            Due.is("it is there", x::senses, (1 << each + 1) - 1);
            Due.is("no parents", () -> x.parents(each), 0);
            Due.is("none above", () -> x.above(each), 0);
            Due.is("none below", () -> x.below(each), 0);
            Due.is("no depth", () -> x.depth(each), 0);
            if (each > 0) {
                Due.is("none covers it and the one before", () -> x.shared(each, each - 1), -1);
            }
        }
    }

    private static void link() {
        Due.sentence("3: Puts a sense below another one. Returns how many parents the sense has then.");
        SenseNet x = Nets.of(30);
        for (int parents = 1; parents <= 4; parents++) {
            int now = parents;
            Due.is("parent " + now, () -> x.link(0, 30 - now), now);
        }
        Due.is("its parents", () -> x.parents(0), 0b1111 << 26);
        Due.is("below each", () -> x.below(26), 1);
        Due.is("a parent's first parent", () -> x.link(26, 0), Due.STATE);
        Due.is("a parent below another one", () -> x.link(29, 28), 1);
        for (int sense = 1; sense < 26; sense++) {
            int each = sense;
            Due.is("many below one", () -> x.link(each, 26), 1);
        }
        Due.is("all of them below", () -> x.below(26), (1 << 26) - 1);
        SenseNet y = Nets.linked(3, new int[] {0, 1}, new int[] {1, 2});
        Due.is("above already, but no parent", () -> y.link(0, 2), 2);
        y.unlink(0, 2);
        Due.is("linked a second time", () -> y.link(0, 2), 2);
    }

    private static void unlink() {
        Due.sentence("4: Takes a parent from a sense. Returns how many parents the sense has then.");
        SenseNet x = Nets.linked(7, new int[] {0, 1}, new int[] {0, 2}, new int[] {0, 3}, new int[] {0, 4},
                new int[] {5, 1}, new int[] {6, 0});
        int[] order = {2, 4, 1, 3};
        int[] left = {0b11010, 0b01010, 0b01000, 0};
        for (int i = 0; i < 4; i++) {
            int cut = i;
            Due.is("parents left", () -> x.unlink(0, order[cut]), 3 - cut);
            Due.is("which ones", () -> x.parents(0), left[cut]);
            Due.is("below the parent", () -> x.below(order[cut]), order[cut] == 1 ? 1 << 5 : 0);
            Due.is("no parent any more", () -> x.unlink(0, order[cut]), Due.STATE);
        }
        Due.is("its own child stays", () -> x.parents(6), 1);
        Due.is("another child stays", () -> x.parents(5), 0b10);
        SenseNet y = Nets.linked(4, new int[] {0, 1}, new int[] {0, 2}, new int[] {1, 3}, new int[] {2, 3});
        y.setCount(0, 7);
        y.unlink(0, 1);
        Due.is("still above by the other way", () -> y.above(0), 0b1100);
        Due.is("the mass by the other way", () -> y.mass(3), 7);
        Due.is("no mass by the cut", () -> y.mass(1), 0);
        Due.is("no mass by the cut, walking", () -> y.massByWalks(1), 0);
    }

    private static void removeAnswers() {
        Due.sentence("5: Returns how many senses it was a parent of.");
        SenseNet x = Nets.of(30);
        for (int sense = 0; sense < 29; sense++) {
            x.link(sense, 29);
        }
        Due.is("none", () -> x.remove(0), 0);
        Due.is("28 are left", () -> x.remove(29), 28);
        Due.is("they have no parents", () -> x.parents(28), 0);
        SenseNet most = Nets.of(30);
        for (int sense = 1; sense < 30; sense++) {
            most.link(sense, 0);
        }
        Due.is("the most", () -> most.remove(0), 29);
        SenseNet chain = Nets.chain(30);
        Due.is("not those further below", () -> chain.remove(29), 1);
        Due.is("from between", () -> chain.remove(15), 1);
        Due.is("the bottom", () -> chain.remove(0), 0);
        Due.is("the gap is closed", () -> chain.parents(14), 1 << 16);
        Due.is("the depth without three", () -> chain.depth(1), 26);
        for (int sense = 1; sense < 29; sense++) {
            int each = sense;
            if (each != 15) {
                Due.is("one by one", () -> chain.remove(each), 0);
            }
        }
        Due.is("none is left", chain::senses, 0);
    }

    private static void removeGivesParents() {
        Due.sentence("5: Each sense of which it was a parent gets its parents instead, those that it does not have already.");
        SenseNet x = Nets.linked(10, new int[] {0, 1}, new int[] {1, 2}, new int[] {1, 3}, new int[] {1, 4}, new int[] {1, 5});
        Due.is("4 for one", () -> x.remove(1), 1);
        Due.is("it has 4 then", () -> x.parents(0), 0b111100);
        Due.is("no 5th", () -> x.link(0, 6), Due.STATE);
        x.link(2, 3);
        x.link(2, 4);
        x.link(2, 6);
        Due.is("2 had already, 1 new, 1 gone", () -> x.remove(2), 1);
        Due.is("it has 4 again", () -> x.parents(0), 0b1111000);
        x.link(3, 4);
        x.link(3, 5);
        x.link(3, 6);
        Due.is("all had already", () -> x.remove(3), 1);
        Due.is("it has 3 then", () -> x.parents(0), 0b1110000);
        Due.is("no parents to give", () -> x.remove(4), 1);
        Due.is("it has 2 then", () -> x.parents(0), 0b1100000);
        x.link(7, 8);
        x.link(8, 9);
        x.link(0, 7);
        Due.is("its child's child gets none of them", () -> x.remove(8), 1);
        Due.is("the child does", () -> x.parents(7), 1 << 9);
        Due.is("the child's child does not", () -> x.parents(0), 0b11100000);
        SenseNet five = Nets.linked(8, new int[] {0, 1}, new int[] {0, 2}, new int[] {0, 3}, new int[] {0, 4},
                new int[] {1, 5}, new int[] {1, 6});
        Due.is("5 then", () -> five.remove(1), Due.STATE);
        five.link(1, 2);
        five.unlink(1, 6);
        Due.is("4 then, one of them had already", () -> five.remove(1), 1);
        Due.is("they are", () -> five.parents(0), 0b111100);
    }

    private static void removeLeavesNothing() {
        Due.sentence("5: Removes a sense.");
        SenseNet x = Nets.linked(6, new int[] {0, 2}, new int[] {1, 2}, new int[] {2, 3}, new int[] {3, 4}, new int[] {5, 4});
        Nets.counts(x, 1, 2, 4, 8, 16, 32);
        Nets.words(x, Nets.row(2, 0));
        Due.is("a word has it", () -> x.remove(2), Due.STATE);
        x.take(0, 2);
        Due.is("no word has it any more", () -> x.remove(2), 2);
        Due.is("senses", x::senses, 0b111011);
        Due.is("above", () -> x.above(0), 0b11000);
        Due.is("below", () -> x.below(3), 0b11);
        Due.is("mass", () -> x.mass(4), 59);
        Due.is("mass by walks", () -> x.massByWalks(4), 59);
        Due.is("depth", () -> x.depth(0), 2);
        Due.is("shared", () -> x.shared(0, 1), 3);
        Due.is("distance", () -> x.distance(0, 5), 3);
        Due.is("likeness, by the whole without it", () -> x.likeness(0, 1, 2), 10000 * 48 / 59);
        Due.is("a top", () -> x.remove(4), 2);
        Due.is("none covers both any more", () -> x.shared(0, 5), -1);
        Due.is("the new top", () -> x.depth(3), 0);
        Due.is("the last number but one is not used again", x::addSense, 6);
    }

    private static void setCount() {
        Due.sentence("6: Sets the count of a sense. Returns the count before.");
        SenseNet x = Nets.chain(30);
        int[] counts = {0, 0, 1, 1, 999, 1000, 1000, 0, 1000};
        int before = 0;
        for (int count : counts) {
            Due.is("setCount(0, " + count + ")", () -> x.setCount(0, count), before);
            Due.is("its mass", () -> x.mass(0), count);
            Due.is("the top's mass", () -> x.mass(29), count);
            Due.is("the top's mass, walking", () -> x.massByWalks(29), count);
            before = count;
        }
        Due.is("the last one's", () -> x.setCount(29, 3), 0);
        Due.is("not the bottom's mass", () -> x.mass(0), 1000);
    }

    private static void addWord() {
        Due.sentence("7: Adds a word without senses. Returns its number.");
        SenseNet x = Nets.of(5);
        for (int word = 0; word < 10; word++) {
            int each = word;
            Due.is("addWord", x::addWord, each);
            Due.is("no senses", () -> x.say(each), Due.STATE);
            Due.is("no lock", () -> x.lock(each, -1), -1);
            Due.is("its first sense", () -> x.give(each, 4), 1);
        }
        Due.is("the words before keep theirs", () -> x.say(0), 1);
    }

    private static void give() {
        Due.sentence("8: Gives a sense to a word. Returns how many senses the word has then.");
        SenseNet x = Nets.of(30);
        Nets.words(x, Nets.row(), Nets.row());
        for (int rank = 0; rank < 5; rank++) {
            int now = rank;
            Due.is("sense " + now, () -> x.give(0, 29 - now), now + 1);
        }
        Due.is("a sense of another word", () -> x.give(1, 29), 1);
        x.take(0, 27);
        Due.is("in the place of a taken one", () -> x.give(0, 0), 5);
        x.say(0);
        x.lock(0, 0);
        Due.is("the sense 0 is one", () -> x.chosen(0, 0), 0);
        x.say(1);
        x.give(1, 28);
        Due.is("given while it is said", x::choices, 2);
    }

    private static void take() {
        Due.sentence("9: Takes a sense from a word. Returns how many senses the word has then.");
        SenseNet x = Nets.of(6);
        Nets.words(x, Nets.row(0, 1, 2, 3, 4), Nets.row(5));
        Nets.say(x, 0, 0);
        for (int sense : new int[] {0, 4, 2}) {
            x.take(0, sense);
        }
        Due.is("two left in the sentence", () -> x.take(0, 1), 1);
        Due.is("its only one in the sentence", () -> x.take(0, 3), Due.STATE);
        Due.is("the only one of a word that is not said", () -> x.take(1, 5), 0);
        Due.is("given again", () -> x.give(1, 5), 1);
        x.hush();
        Due.is("its only one after hush", () -> x.take(0, 3), 0);
        Due.is("none left", () -> x.say(0), Due.STATE);
        SenseNet others = Nets.of(3);
        Nets.words(others, Nets.row(0), Nets.row(1), Nets.row(2));
        others.say(1);
        Due.is("only a word with a higher number is said", () -> others.take(0, 0), 0);
        Due.is("only a word with a lower number is said", () -> others.take(2, 2), 0);
        SenseNet y = Nets.of(5);
        Nets.words(y, Nets.row(0, 1, 2, 3, 4));
        for (int sense = 0; sense < 5; sense++) {
            int each = sense;
            Due.is("one less", () -> y.take(0, each), 4 - each);
        }
    }

    private static void takeUnlocks() {
        Due.sentence("9: if the word was locked to it, it is not locked any more");
        SenseNet x = Nets.of(3);
        Nets.words(x, Nets.row(0, 1, 2), Nets.row(0));
        x.lock(0, 0);
        x.lock(1, 0);
        Due.is("locked to another one", () -> x.take(0, 2), 2);
        Due.is("it stays locked", () -> x.lock(0, 1), 0);
        x.give(0, 2);
        Due.is("locked to one with a lower number", () -> x.take(0, 2), 2);
        Due.is("it stays locked", () -> x.lock(0, 1), 1);
        x.give(0, 2);
        x.lock(0, 2);
        Due.is("locked to one with a higher number", () -> x.take(0, 1), 2);
        Due.is("it stays locked", () -> x.lock(0, 0), 2);
        Due.is("locked to the sense 0", () -> x.take(0, 0), 1);
        Due.is("not locked any more", () -> x.lock(0, -1), -1);
        Due.is("another word stays locked to it", () -> x.lock(1, 0), 0);
        Due.is("its only one, locked and not said", () -> x.take(1, 0), 0);
        Due.is("not locked, without senses", () -> x.lock(1, -1), -1);
        x.give(1, 0);
        Due.is("given again it is not locked to it", () -> x.lock(1, -1), -1);
    }

    private static void lock() {
        Due.sentence("10: Locks a word to a sense, or unlocks it. Returns the sense to which it was locked; -1 for none.");
        SenseNet x = Nets.of(30);
        Nets.words(x, Nets.row(29, 0), Nets.row(0), Nets.row());
        Due.is("to the sense 0", () -> x.lock(0, 0), -1);
        Due.is("from 0 to 29", () -> x.lock(0, 29), 0);
        Due.is("to the same", () -> x.lock(0, 29), 29);
        Due.is("unlock", () -> x.lock(0, -1), 29);
        Due.is("unlock again", () -> x.lock(0, -1), -1);
        Due.is("unlock one without senses", () -> x.lock(2, -1), -1);
        x.say(0);
        x.lock(0, 0);
        Due.is("locked while it is said", () -> x.chosen(0, 0), 0);
        x.lock(0, -1);
        Due.is("unlocked while it is said", () -> x.chosen(0, 0), 29);
    }

    private static void say() {
        Due.sentence("11: Puts a word behind the sentence. Returns how many places the sentence has then.");
        SenseNet x = Nets.of(10);
        for (int word = 0; word < 10; word++) {
            Nets.words(x, Nets.row(word));
        }
        int[] said = {9, 0, 5, 9, 1, 0};
        for (int place = 0; place < 6; place++) {
            int at = place;
            Due.is("say(" + said[at] + ")", () -> x.say(said[at]), at + 1);
            Due.is("it is behind", () -> x.chosen(at, 0), said[at]);
        }
        Due.is("the first one is still in front", () -> x.chosen(0, 0), 9);
        Due.is("the third one too", () -> x.chosen(2, 0), 5);
    }

    private static void hush() {
        Due.sentence("12: Empties the sentence. Returns how many places it had.");
        SenseNet x = Nets.of(2);
        Nets.words(x, Nets.row(0, 1));
        x.lock(0, 1);
        for (int places = 0; places <= 6; places++) {
            for (int place = 0; place < places; place++) {
                x.say(0);
            }
            Due.is("hush", x::hush, places);
            Due.is("empty then", x::hush, 0);
            Due.is("no place", () -> x.chosen(0, 0), Due.OUT);
            Due.is("one choice", x::choices, 1);
        }
        Due.is("words stay locked", () -> x.lock(0, -1), 1);
        Due.is("words keep their senses", () -> x.give(0, 0), Due.STATE);
    }

    private static void sets() {
        Due.sentence("13 to 16: Returns the set");
        SenseNet x = Nets.of(30);
        Due.is("all senses", x::senses, ALL);
        for (int sense = 1; sense < 30; sense++) {
            x.remove(sense);
        }
        Due.is("the sense 0 alone", x::senses, 1);
        x.remove(0);
        Due.is("no senses", x::senses, 0);
        SenseNet y = Nets.chain(30);
        for (int sense = 0; sense < 30; sense++) {
            int each = sense;
            Due.is("parents(" + each + ")", () -> y.parents(each), each < 29 ? 1 << each + 1 : 0);
            Due.is("above(" + each + ")", () -> y.above(each), ALL & ~((1 << each + 1) - 1));
            Due.is("below(" + each + ")", () -> y.below(each), (1 << each) - 1);
        }
        y.unlink(14, 15);
        Due.is("above, to the cut", () -> y.above(0), 0x7ffe);
        Due.is("below, to the cut", () -> y.below(29), 0x1fff8000);
        Due.is("senses do not go with a link", y::senses, ALL);
    }

    private static void masses() {
        Due.sentence("17 and 18: Returns the mass of a sense. Returns the same");
        SenseNet x = Nets.of(30);
        for (int sense = 0; sense < 30; sense++) {
            for (int parent = Math.max(0, sense - 4); parent < sense; parent++) {
                x.link(sense, parent);
            }
        }
        Due.is("no counts", () -> x.mass(0), 0);
        Due.is("no counts, walking", () -> x.massByWalks(0), 0);
        for (int sense = 0; sense < 30; sense++) {
            x.setCount(sense, 1000);
        }
        for (int sense = 0; sense < 30; sense++) {
            int each = sense;
            Due.is("mass(" + each + ")", () -> x.mass(each), 1000 * (30 - each));
            Due.is("massByWalks(" + each + ")", () -> x.massByWalks(each), 1000 * (30 - each));
        }
    }

    private static void depth() {
        Due.sentence("19: Returns the depth of a sense.");
        SenseNet x = Nets.chain(30);
        for (int sense = 0; sense < 30; sense++) {
            int each = sense;
            Due.is("depth(" + each + ")", () -> x.depth(each), 29 - each);
        }
        x.unlink(28, 29);
        Due.is("one less", () -> x.depth(0), 28);
        x.link(0, 29);
        Due.is("a top beside", () -> x.depth(0), 1);
        SenseNet y = Nets.linked(5, new int[] {0, 1}, new int[] {0, 2}, new int[] {0, 3}, new int[] {0, 4},
                new int[] {1, 2}, new int[] {2, 3}, new int[] {3, 4});
        Due.is("the last of four parents is a top", () -> y.depth(0), 1);
        y.unlink(0, 4);
        Due.is("the last but one", () -> y.depth(0), 2);
    }

    private static void shared() {
        Due.sentence("20: Returns the sense; -1 if no sense covers both.");
        SenseNet x = Nets.linked(30, new int[] {1, 0}, new int[] {28, 29});
        Due.is("two apart", () -> x.shared(2, 3), -1);
        Due.is("one and itself", () -> x.shared(3, 3), 3);
        Due.is("two tops", () -> x.shared(0, 29), -1);
        Due.is("a child and a top apart", () -> x.shared(1, 29), -1);
        Due.is("the sense 0", () -> x.shared(1, 0), 0);
        Due.is("the sense 29", () -> x.shared(28, 29), 29);
        x.link(1, 29);
        Due.is("by a second parent", () -> x.shared(1, 28), 29);
        x.unlink(28, 29);
        Due.is("none any more", () -> x.shared(1, 28), -1);
    }

    private static void distance() {
        Due.sentence("21: Returns the distance; -1 if no sense covers both.");
        SenseNet x = Nets.of(30);
        Due.is("none covers both", () -> x.distance(0, 29), -1);
        Due.is("itself", () -> x.distance(29, 29), 0);
        for (int sense = 0; sense < 14; sense++) {
            x.link(sense, sense + 1);
            x.link(sense + 15, sense + 16);
        }
        Due.is("two chains apart", () -> x.distance(0, 15), -1);
        x.link(14, 29);
        Due.is("two chains under one", () -> x.distance(0, 15), 29);
        Due.is("the other way round", () -> x.distance(15, 0), 29);
        x.link(0, 16);
        Due.is("a short way", () -> x.distance(0, 15), 2);
        Due.is("by the short way from further above", () -> x.distance(1, 15), 28);
    }

    private static void likeness() {
        Due.sentence("22: Returns 0 to 10000; another one, or the same");
        SenseNet x = Nets.of(30);
        x.link(0, 29);
        x.setCount(29, 1000);
        for (int measure = 0; measure < 3; measure++) {
            int by = measure;
            Due.is("the same by " + by, () -> x.likeness(0, 0, by), 10000);
            Due.is("none covers both by " + by, () -> x.likeness(0, 1, by), 0);
        }
        Due.is("the last one and itself by 0", () -> x.likeness(29, 29, 0), 10000);
        Due.is("the last one and itself by 1", () -> x.likeness(29, 29, 1), 10000);
        Due.is("the last one and itself by 2", () -> x.likeness(29, 29, 2), 0);
        x.setCount(0, 1);
        Due.is("next to nothing is its own mass", () -> x.likeness(0, 0, 2), 9990);
        x.setCount(28, 1);
        Due.is("all but one is its mass", () -> x.likeness(29, 29, 2), 9);
    }

    private static void choices() {
        Due.sentence("23: Returns how many choices there are for the sentence; 1 for an empty one.");
        SenseNet x = Nets.of(30);
        Due.is("empty, no words", x::choices, 1);
        Nets.words(x, Nets.row(0, 1, 2, 3, 4), Nets.row(5), Nets.row(6, 7));
        Due.is("empty, with words", x::choices, 1);
        x.say(1);
        Due.is("one place, one sense", x::choices, 1);
        int due = 1;
        for (int place = 1; place < 6; place++) {
            x.say(0);
            due *= 5;
            Due.is("five times as many", x::choices, due);
        }
        x.lock(0, 4);
        Due.is("locked", x::choices, 1);
        x.hush();
        Due.is("empty, with a locked word", x::choices, 1);
        x.lock(0, -1);
        Nets.say(x, 0, 0, 0, 0, 0, 0);
        Due.is("the most", x::choices, 15625);
        x.take(0, 0);
        Due.is("one sense less", x::choices, 4096);
        x.hush();
        Nets.say(x, 2, 0, 1, 2);
        Due.is("2 * 4 * 1 * 2", x::choices, 16);
    }

    private static void fewerThanTwoPlaces() {
        Due.sentence("24 and 25: Returns the worth; 0 for fewer than two places.");
        SenseNet x = Nets.chain(5);
        Nets.counts(x, 1, 1, 1, 1, 1);
        Nets.words(x, Nets.row(3, 4), Nets.row(0, 1, 2));
        int[] two = {5000, 8000, 2000};
        for (int measure = 0; measure < 3; measure++) {
            int by = measure;
            Due.is("no place by " + by, () -> x.bestWorth(by), 0);
            Due.is("no place by " + by + ", all tried", () -> x.greatestWorth(by), 0);
            x.say(0);
            Due.is("one place by " + by, () -> x.bestWorth(by), 0);
            Due.is("one place by " + by + ", all tried", () -> x.greatestWorth(by), 0);
            x.say(1);
            Due.is("two places by " + by, () -> x.bestWorth(by), two[by]);
            Due.is("two places by " + by + ", all tried", () -> x.greatestWorth(by), two[by]);
            x.hush();
            Due.is("no place any more by " + by, () -> x.bestWorth(by), 0);
            Due.is("no place any more by " + by + ", all tried", () -> x.greatestWorth(by), 0);
        }
    }

    private static void bothWorths() {
        Due.sentence("24: found place by place, no further where the worth cannot become greater any more");
        // The second sense of each word leads, but only with all places after it.
        SenseNet x = Nets.linked(18, new int[] {0, 1}, new int[] {6, 12}, new int[] {7, 12}, new int[] {8, 12},
                new int[] {9, 12}, new int[] {10, 12}, new int[] {11, 12});
        for (int word = 0; word < 6; word++) {
            Nets.words(x, Nets.row(word, 6 + word));
            x.say(word);
        }
        // 0 and 1 are worth 5000 at once; 6 to 11 are worth 3333 for each two of them.
        Due.is("worth", () -> x.bestWorth(0), 15 * 3333);
        Due.is("worth, all tried", () -> x.greatestWorth(0), 15 * 3333);
        for (int place = 0; place < 6; place++) {
            int at = place;
            Due.is("chosen(" + at + ")", () -> x.chosen(at, 0), 6 + at);
        }
        x.lock(5, 5);
        Due.is("all tried, nothing asked since a lock", () -> x.greatestWorth(0), 10 * 3333);
        x.lock(5, -1);
        x.take(5, 11);
        x.take(4, 10);
        // 0, 1, then 2 and 3: 5000; 6 to 9: 6 * 3333.
        Due.is("four of them", () -> x.bestWorth(0), 6 * 3333);
        x.take(3, 9);
        x.take(2, 8);
        Due.is("two of them are less than the first choice", () -> x.bestWorth(0), 5000);
        Due.is("so the first one stays", () -> x.chosen(1, 0), 1);
        x.hush();
        Nets.say(x, 2, 3, 4, 5);
        Due.is("no worth in a single choice", () -> x.bestWorth(0), 0);
        Due.is("no worth in a single choice, all tried", () -> x.greatestWorth(0), 0);
        Due.is("it is the best one", () -> x.chosen(3, 0), 5);
    }

    private static void shorterSentence() {
        Due.sentence("12: Empties the sentence.");
        SenseNet x = Nets.of(4);
        Nets.words(x, Nets.row(0, 1), Nets.row(2, 3));
        Nets.say(x, 0, 0, 0, 0, 0, 0);
        Due.is("six places", () -> x.bestWorth(0), 150000);
        for (int places = 5; places > 0; places--) {
            x.hush();
            for (int place = 1; place < places; place++) {
                x.say(0);
            }
            x.say(1);
            int last = places - 1;
            Due.is(places + " places after more", () -> x.bestWorth(0), last * (last - 1) / 2 * 10000);
            Due.is(places + " places, all tried", () -> x.greatestWorth(0), last * (last - 1) / 2 * 10000);
            Due.is("the first one's sense", () -> x.chosen(0, 0), last == 0 ? 2 : 0);
            Due.is("the last one's sense", () -> x.chosen(last, 0), 2);
        }
    }

    private static void chosen() {
        Due.sentence("26: Returns a sense of the best choice.");
        SenseNet x = Nets.linked(8, new int[] {2, 0}, new int[] {3, 0}, new int[] {4, 1}, new int[] {5, 4}, new int[] {6, 5});
        Nets.counts(x, 0, 0, 100, 100, 0, 0, 1, 99);
        Nets.words(x, Nets.row(2, 5), Nets.row(3, 6));
        x.say(0);
        for (int measure = 0; measure < 3; measure++) {
            int by = measure;
            Due.is("a single place by " + by, () -> x.chosen(0, by), 2);
        }
        x.say(1);
        // 2 and 3: distance 2, depths 0 of 1 and 1, mass 200 of 300; 5 and 6: 1, 2 of 2 and 3, 1 of 300.
        for (int measure = 0; measure < 3; measure++) {
            int by = measure;
            Due.is("the first place by " + by, () -> x.chosen(0, by), 5);
            Due.is("the last place by " + by, () -> x.chosen(1, by), 6);
            Due.is("behind the last place by " + by, () -> x.chosen(2, by), Due.OUT);
        }
        x.link(3, 2);
        x.setCount(2, 0);
        x.setCount(3, 0);
        x.setCount(0, 200);
        x.setCount(6, 100);
        // Now 2 and 3: distance 1, depths 1 of 1 and 1, mass 0 of 399; 5 and 6: mass 100 of 399.
        Due.is("a tie by 0: the first one", () -> x.chosen(0, 0), 2);
        Due.is("by 1", () -> x.chosen(1, 1), 3);
        Due.is("by 2", () -> x.chosen(1, 2), 3);
        x.setCount(2, 101);
        Due.is("by 2, the masses changed", () -> x.chosen(1, 2), 6);
        Due.is("by 0 as before", () -> x.chosen(1, 0), 3);
    }

    private static void the512thCall() {
        Due.sentence("An object is used for at most 512 calls after it has been made");
        SenseNet x = new SenseNet();
        x.addSense();
        x.addWord();
        x.give(0, 0);
        int calls = 3;
        while (calls < 510) {
            x.say(0);
            x.hush();
            x.setCount(0, calls);
            calls += 3;
        }
        Due.is("the 511th", () -> x.say(0), 1);
        Due.is("the 512th", () -> x.chosen(0, 0), 0);
    }
}
