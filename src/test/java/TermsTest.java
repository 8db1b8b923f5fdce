/** The sentences of 'Terms' that name a boundary case, each with a test of its own. */
public final class TermsTest {
    public static void main(String[] args) {
        sensesAreNumbered();
        upToFourParents();
        noSenseIsAboveItself();
        aboveByParents();
        setsAsBits();
        countsFromZeroTo1000();
        massEachOnce();
        theWhole();
        theLeastNumberOfSteps();
        aSenseCoversItself();
        theLeastMass();
        ofSeveralTheGreatestDepth();
        ofThoseTheLowestNumber();
        theLeastSum();
        noSenseCoversBoth();
        roundedDown();
        measure0();
        measure1AtMost10000();
        measure2();
        wordsAreNumbered();
        upToFiveSenses();
        inTheOrderGiven();
        lockedToOne();
        atMostSixWords();
        severalTimes();
        theLockedOne();
        eachTwoPlaces();
        theGreatestWorth();
        theFirstOfSeveral();
        thenTheSecondPlaceAndSoOn();
        asTheyStandInTheWord();
        askingChangesNothing();
        Due.end();
    }

    private static void sensesAreNumbered() {
        Due.sentence("Senses are numbered from 0 on in the order in which they are added; at most 30 are added in all.");
        SenseNet x = new SenseNet();
        Due.is("first", x::addSense, 0);
        Due.is("second", x::addSense, 1);
        x.remove(1);
        Due.is("a removed one's number is not used again", x::addSense, 2);
        SenseNet y = Nets.of(29);
        y.remove(3);
        Due.is("the 30th, one being removed", y::addSense, 29);
        Due.is("the 31st, 29 being there", y::addSense, Due.STATE);
        for (int sense = 0; sense < 30; sense++) {
            if (sense != 3) {
                y.remove(sense);
            }
        }
        Due.is("none is left", y::senses, 0);
        Due.is("the 31st, none being there", y::addSense, Due.STATE);
    }

    private static void upToFourParents() {
        Due.sentence("A sense has up to 4 parents, which are more general senses");
        SenseNet x = Nets.linked(7, new int[] {0, 1}, new int[] {0, 2}, new int[] {0, 3});
        Due.is("one less than 4", () -> x.parents(0), 0b1110);
        Due.is("the 4th", () -> x.link(0, 4), 4);
        Due.is("the 5th", () -> x.link(0, 5), Due.STATE);
        Due.is("still 4", () -> x.parents(0), 0b11110);
        x.unlink(0, 2);
        Due.is("the 4th again", () -> x.link(0, 5), 4);
        Due.is("a sense can be a parent of more than 4", () -> {
            for (int sense = 1; sense < 6; sense++) {
                x.link(sense, 6);
            }
            return x.below(6);
        }, 0b111111);
    }

    private static void noSenseIsAboveItself() {
        Due.sentence("no sense is above itself");
        SenseNet alone = Nets.of(1);
        Due.is("by itself", () -> alone.link(0, 0), Due.STATE);
        Due.is("still alone", () -> alone.parents(0), 0);
        SenseNet two = Nets.chain(2);
        Due.is("by its child", () -> two.link(1, 0), Due.STATE);
        SenseNet chain = Nets.chain(30);
        Due.is("by one 29 steps below", () -> chain.link(29, 0), Due.STATE);
        Due.is("no sense is above the top", () -> chain.above(29), 0);
        SenseNet fork = Nets.linked(5, new int[] {0, 1}, new int[] {0, 2}, new int[] {1, 3}, new int[] {2, 4});
        Due.is("by a second parent's way", () -> fork.link(4, 0), Due.STATE);
        Due.is("beside it is fine", () -> fork.link(3, 2), 1);
        Due.is("by a long way round", () -> fork.link(4, 1), Due.STATE);
        SenseNet left = Nets.chain(3);
        left.remove(1);
        Due.is("past a removed one", () -> left.link(2, 0), Due.STATE);
        left.unlink(0, 2);
        Due.is("no longer above", () -> left.link(2, 0), 1);
    }

    private static void aboveByParents() {
        Due.sentence("A sense is above another one if it is a parent of it, or above one of its parents.");
        SenseNet x = Nets.linked(6, new int[] {0, 1}, new int[] {0, 2}, new int[] {2, 3}, new int[] {4, 2});
        Due.is("parents and a parent of the second one", () -> x.above(0), 0b1110);
        Due.is("not a child or a brother", () -> x.above(2), 0b1000);
        Due.is("none above a top", () -> x.above(1), 0);
        Due.is("none below a bottom", () -> x.below(4), 0);
        Due.is("none below one that stands alone", () -> x.below(5), 0);
        SenseNet fork = Nets.linked(7, new int[] {0, 1}, new int[] {0, 2}, new int[] {1, 3}, new int[] {2, 4}, new int[] {3, 5}, new int[] {4, 6});
        Due.is("above both parents", () -> fork.above(0), 0b1111110);
        Due.is("below by the first parent", () -> fork.below(5), 0b1011);
        Due.is("below by the second parent", () -> fork.below(6), 0b10101);
        SenseNet chain = Nets.chain(30);
        Due.is("29 steps up", () -> chain.above(0), 0x3ffffffe);
        Due.is("29 steps down", () -> chain.below(29), 0x1fffffff);
    }

    private static void setsAsBits() {
        Due.sentence("Sets of senses are told as bits: the sum of 2 to the power of their numbers.");
        SenseNet x = Nets.of(30);
        Due.is("all", x::senses, 1073741823);
        x.link(1, 29);
        x.link(1, 0);
        Due.is("the least and the greatest number", () -> x.parents(1), 536870913);
        x.unlink(1, 0);
        Due.is("the greatest number alone", () -> x.above(1), 536870912);
        Due.is("the number 1 alone", () -> x.below(29), 2);
        Due.is("none", () -> x.below(1), 0);
    }

    private static void countsFromZeroTo1000() {
        Due.sentence("Each sense has a count, 0 to 1000, at first 0.");
        SenseNet x = Nets.of(2);
        Due.is("at first", () -> x.mass(1), 0);
        Due.is("the first answer", () -> x.setCount(1, 1000), 0);
        Due.is("1000", () -> x.mass(1), 1000);
        Due.is("1001", () -> x.setCount(1, 1001), Due.ARGUMENT);
        Due.is("0", () -> x.setCount(1, 0), 1000);
        Due.is("-1", () -> x.setCount(1, -1), Due.ARGUMENT);
        Due.is("still 0", () -> x.mass(1), 0);
        Due.is("the other one is still at first", () -> x.setCount(0, 5), 0);
    }

    private static void massEachOnce() {
        Due.sentence("The mass of a sense is the sum of the counts of the sense itself and of all senses below it, each once.");
        SenseNet x = Nets.linked(7, new int[] {0, 1}, new int[] {0, 2}, new int[] {0, 3}, new int[] {0, 4},
                new int[] {1, 5}, new int[] {2, 5}, new int[] {3, 5}, new int[] {4, 5}, new int[] {5, 6});
        Nets.counts(x, 1, 10, 20, 30, 40, 100, 200);
        Due.is("by four ways", () -> x.mass(5), 201);
        Due.is("by four ways, one further", () -> x.mass(6), 401);
        Due.is("by one way", () -> x.mass(3), 31);
        Due.is("none below it", () -> x.mass(0), 1);
        Due.is("by four ways, walking", () -> x.massByWalks(5), 201);
        Due.is("one further, walking", () -> x.massByWalks(6), 401);
        Due.is("none below it, walking", () -> x.massByWalks(0), 1);
        x.setCount(6, 0);
        Due.is("no count of its own", () -> x.mass(6), 201);
        SenseNet ways = Nets.linked(7, new int[] {0, 3}, new int[] {0, 1}, new int[] {1, 2}, new int[] {2, 3}, new int[] {3, 4}, new int[] {0, 5}, new int[] {5, 6});
        ways.setCount(0, 1);
        Due.is("by ways of one and three steps", () -> ways.mass(3), 1);
        Due.is("by ways of one and three steps, walking", () -> ways.massByWalks(3), 1);
        Due.is("above where they meet, walking", () -> ways.massByWalks(4), 1);
        Due.is("by one of two parents, walking", () -> ways.massByWalks(2), 1);
        Due.is("by the other of two parents, walking", () -> ways.massByWalks(6), 1);
        SenseNet full = Nets.chain(30);
        for (int sense = 0; sense < 30; sense++) {
            full.setCount(sense, 1000);
        }
        Due.is("the greatest mass", () -> full.mass(29), 30000);
        Due.is("the greatest mass, walking", () -> full.massByWalks(29), 30000);
    }

    private static void theWhole() {
        Due.sentence("The whole is the sum of all counts.");
        SenseNet x = Nets.of(30);
        Nets.counts(x, 1);
        Due.is("one count", () -> x.likeness(0, 0, 2), 0);
        x.setCount(29, 3);
        Due.is("a sense apart counts", () -> x.likeness(0, 0, 2), 7500);
        x.setCount(29, 1);
        Due.is("a new count", () -> x.likeness(0, 0, 2), 5000);
        x.remove(29);
        Due.is("a removed sense does not", () -> x.likeness(0, 0, 2), 0);
        for (int sense = 0; sense < 29; sense++) {
            x.setCount(sense, 1000);
        }
        Due.is("29 times 1000", () -> x.likeness(0, 0, 2), 9655);
    }

    private static void theLeastNumberOfSteps() {
        Due.sentence("The depth of a sense is the least number of steps, each from a sense to one of its parents, to a sense without parents.");
        SenseNet x = Nets.linked(6, new int[] {0, 1}, new int[] {1, 2}, new int[] {2, 3}, new int[] {0, 4}, new int[] {4, 5});
        Due.is("no step", () -> x.depth(3), 0);
        Due.is("one step", () -> x.depth(2), 1);
        Due.is("the shorter way, linked last", () -> x.depth(0), 2);
        x.link(4, 3);
        Due.is("a second way as short", () -> x.depth(0), 2);
        x.unlink(4, 3);
        x.unlink(4, 5);
        Due.is("the parent has no parents any more", () -> x.depth(0), 1);
        SenseNet y = Nets.linked(4, new int[] {0, 3}, new int[] {0, 1}, new int[] {1, 2}, new int[] {2, 3});
        Due.is("the shorter way, linked first", () -> y.depth(0), 1);
        SenseNet chain = Nets.chain(30);
        Due.is("the most steps", () -> chain.depth(0), 29);
        chain.link(0, 29);
        Due.is("the longest way past", () -> chain.depth(0), 1);
        Due.is("one less than the longest way", () -> chain.depth(1), 28);
        SenseNet last = Nets.linked(30, new int[] {29, 28}, new int[] {28, 0});
        Due.is("the last sense", () -> last.depth(29), 2);
    }

    private static void aSenseCoversItself() {
        Due.sentence("A sense covers itself and all senses below it.");
        SenseNet x = Nets.chain(3);
        Nets.counts(x, 1, 1, 1);
        Due.is("itself", () -> x.shared(0, 0), 0);
        Due.is("a top itself", () -> x.shared(2, 2), 2);
        Due.is("a child", () -> x.shared(0, 1), 1);
        Due.is("a child's child", () -> x.shared(2, 0), 2);
        Due.is("no step to itself", () -> x.distance(1, 1), 0);
        SenseNet apart = Nets.of(2);
        Due.is("not one that is apart", () -> apart.shared(0, 1), -1);
        Due.is("one that is apart, itself", () -> apart.shared(1, 1), 1);
    }

    /** 0 and 1 below each of 2, 3 and 4; 5 below 2, 6 below 3, 7 below 4. */
    private static SenseNet threeCovers() {
        return Nets.linked(10, new int[] {0, 2}, new int[] {1, 2}, new int[] {0, 3}, new int[] {1, 3},
                new int[] {0, 4}, new int[] {1, 4}, new int[] {5, 2}, new int[] {6, 3}, new int[] {7, 4});
    }

    private static void theLeastMass() {
        Due.sentence("The shared sense of two senses is, of those that cover both, the one with the least mass");
        SenseNet x = threeCovers();
        Nets.counts(x, 0, 0, 0, 0, 0, 2, 1, 2);
        Due.is("neither the lowest nor the highest number", () -> x.shared(0, 1), 3);
        x.setCount(7, 0);
        Due.is("the highest number", () -> x.shared(0, 1), 4);
        x.setCount(5, 0);
        x.setCount(7, 1);
        Due.is("the lowest number", () -> x.shared(0, 1), 2);
        x.link(4, 8);
        x.link(8, 9);
        Due.is("a deeper one with more mass", () -> x.shared(0, 1), 2);
        Nets.counts(x, 0, 0, 0, 0, 0, 1000, 1000, 999);
        Due.is("one less than the greatest count", () -> x.shared(0, 1), 4);
    }

    private static void ofSeveralTheGreatestDepth() {
        Due.sentence("of several the one with the greatest depth");
        SenseNet x = threeCovers();
        x.link(3, 8);
        Due.is("a step deeper, no counts", () -> x.shared(0, 1), 3);
        x.link(4, 8);
        x.link(8, 9);
        x.unlink(3, 8);
        x.link(3, 9);
        Due.is("two steps deeper", () -> x.shared(1, 0), 4);
        Nets.counts(x, 3, 3, 5, 5, 5);
        Due.is("the same mass, not 0", () -> x.shared(0, 1), 4);
        x.setCount(4, 6);
        Due.is("the deepest with a mass more", () -> x.shared(0, 1), 3);
        SenseNet chain = Nets.chain(30);
        Due.is("the deepest of a chain", () -> chain.shared(0, 0), 0);
        Due.is("the deeper of two of a chain", () -> chain.shared(3, 7), 7);
    }

    private static void ofThoseTheLowestNumber() {
        Due.sentence("of those the one with the lowest number");
        SenseNet x = threeCovers();
        Due.is("three alike", () -> x.shared(0, 1), 2);
        x.setCount(5, 1);
        Due.is("two alike", () -> x.shared(0, 1), 3);
        SenseNet y = Nets.linked(5, new int[] {4, 1}, new int[] {4, 0}, new int[] {3, 1}, new int[] {3, 0}, new int[] {0, 2}, new int[] {1, 2});
        Due.is("two alike at depth 1, the higher one linked first", () -> y.shared(3, 4), 0);
    }

    private static void theLeastSum() {
        Due.sentence("The distance of two senses is the least sum of steps to parents from the one and from the other one to a sense that covers both.");
        SenseNet x = Nets.linked(7, new int[] {0, 2}, new int[] {2, 3}, new int[] {1, 3}, new int[] {3, 4}, new int[] {5, 4});
        Due.is("no step", () -> x.distance(0, 0), 0);
        Due.is("one step", () -> x.distance(0, 2), 1);
        Due.is("two steps up and one", () -> x.distance(0, 1), 3);
        Due.is("one step and two up", () -> x.distance(1, 0), 3);
        Due.is("three up and one", () -> x.distance(0, 5), 4);
        x.link(0, 4);
        Due.is("past the others", () -> x.distance(0, 5), 2);
        Due.is("a way past that is as long", () -> x.distance(0, 1), 3);
        Due.is("one above the other", () -> x.distance(0, 3), 2);
        SenseNet past = Nets.linked(5, new int[] {0, 1}, new int[] {1, 2}, new int[] {2, 3}, new int[] {3, 4}, new int[] {0, 4});
        Due.is("one above the other, but nearer by a third", () -> past.distance(0, 3), 2);
        Due.is("the same from above", () -> past.distance(3, 0), 2);
        SenseNet far = Nets.chain(29);
        far.addSense();
        Due.is("none covers both", () -> far.distance(0, 29), -1);
        far.link(29, 28);
        Due.is("the most steps", () -> far.distance(0, 29), 29);
        Due.is("the most steps, the other way round", () -> far.distance(29, 0), 29);
    }

    private static void noSenseCoversBoth() {
        Due.sentence("it is 0 if no sense covers both");
        SenseNet x = Nets.linked(3, new int[] {0, 1});
        Nets.counts(x, 1, 1, 1);
        for (int measure = 0; measure < 3; measure++) {
            int by = measure;
            Due.is("by " + by, () -> x.likeness(0, 2, by), 0);
            Due.is("the other way round by " + by, () -> x.likeness(2, 0, by), 0);
            Due.is("two tops by " + by, () -> x.likeness(1, 2, by), 0);
        }
    }

    private static void roundedDown() {
        Due.sentence("Otherwise it is, rounded down");
        SenseNet x = Nets.chain(6);
        Due.is("10000 / 3", () -> x.likeness(0, 2, 0), 3333);
        Due.is("10000 / 6, over a half", () -> x.likeness(0, 5, 0), 1666);
        Due.is("20000 * 1 / 3, over a half", () -> x.likeness(4, 5, 1), 6666);
        Due.is("20000 * 2 / 7, below a half", () -> x.likeness(1, 4, 1), 5714);
        Nets.counts(x, 1, 1, 1, 0, 0, 0);
        Due.is("10000 * 2 / 3, over a half", () -> x.likeness(0, 0, 2), 6666);
        Due.is("10000 * 1 / 3, below a half", () -> x.likeness(0, 1, 2), 3333);
    }

    private static void measure0() {
        Due.sentence("by the measure 0: 10000 divided by 1 and the distance, together");
        SenseNet x = Nets.chain(30);
        Due.is("no distance", () -> x.likeness(7, 7, 0), 10000);
        Due.is("one step", () -> x.likeness(7, 8, 0), 5000);
        Due.is("one step less than the most", () -> x.likeness(1, 29, 0), 344);
        Due.is("the most steps", () -> x.likeness(29, 0, 0), 333);
    }

    private static void measure1AtMost10000() {
        Due.sentence("by the measure 1: 20000 * (depth of the shared sense and 1) / (depth of the one and 1, and depth of the other one and 1, together), but at most 10000");
        SenseNet x = Nets.chain(30);
        Due.is("two tops", () -> x.likeness(29, 29, 1), 10000);
        Due.is("two bottoms", () -> x.likeness(0, 0, 1), 10000);
        Due.is("a step at the bottom", () -> x.likeness(0, 1, 1), 9830);
        Due.is("a step at the top", () -> x.likeness(28, 29, 1), 6666);
        Due.is("the least", () -> x.likeness(0, 29, 1), 645);
        // The bottom's way past leaves the shared sense deeper than the bottom.
        x.link(0, 29);
        Due.is("cut where the shared sense is deeper than one sense twice", () -> x.likeness(0, 0, 1), 10000);
        Due.is("cut where the shared sense is deeper than the one", () -> x.likeness(0, 1, 1), 10000);
        SenseNet y = Nets.linked(7, new int[] {0, 2}, new int[] {2, 3}, new int[] {3, 4}, new int[] {1, 2}, new int[] {0, 5}, new int[] {1, 5}, new int[] {6, 5});
        Nets.counts(y, 0, 0, 0, 0, 0, 0, 1);
        Due.is("20000 * 3 / 4 is cut", () -> y.likeness(0, 1, 1), 10000);
        y.unlink(1, 5);
        Due.is("20000 * 3 / 6 is just as much", () -> y.likeness(0, 1, 1), 10000);
        y.unlink(0, 5);
        Due.is("20000 * 3 / 8 is not", () -> y.likeness(0, 1, 1), 7500);
    }

    private static void measure2() {
        Due.sentence("by the measure 2: 10000 * (the whole less the mass of the shared sense) / the whole, and 0 if the whole is 0");
        SenseNet x = Nets.linked(30, new int[] {0, 1}, new int[] {2, 1});
        Due.is("no counts", () -> x.likeness(0, 0, 2), 0);
        Due.is("no counts, two senses", () -> x.likeness(0, 2, 2), 0);
        x.setCount(0, 1);
        Due.is("the whole 1, all of it below", () -> x.likeness(0, 2, 2), 0);
        Due.is("the whole 1, none of it below", () -> x.likeness(3, 3, 2), 10000);
        x.setCount(0, 0);
        Due.is("no counts any more", () -> x.likeness(3, 3, 2), 0);
        for (int sense = 3; sense < 30; sense++) {
            x.setCount(sense, 1000);
        }
        Due.is("no mass", () -> x.likeness(0, 2, 2), 10000);
        x.setCount(2, 1);
        Due.is("mass 1 of 27001", () -> x.likeness(0, 2, 2), 9999);
        for (int sense = 0; sense < 3; sense++) {
            x.setCount(sense, 1000);
        }
        Due.is("the greatest whole", () -> x.likeness(0, 2, 2), 9000);
        for (int sense = 3; sense < 29; sense++) {
            x.link(sense, sense + 1);
        }
        x.link(1, 3);
        Due.is("the whole 30000, all of it below", () -> x.likeness(0, 29, 2), 0);
    }

    private static void wordsAreNumbered() {
        Due.sentence("Words are numbered from 0 on; there are at most 10.");
        SenseNet x = new SenseNet();
        for (int word = 0; word < 9; word++) {
            Due.is("addWord", x::addWord, word);
        }
        Due.is("not yet the 10th", () -> x.lock(9, -1), Due.OUT);
        Due.is("the 10th", x::addWord, 9);
        Due.is("the 10th is there", () -> x.lock(9, -1), -1);
        Due.is("the 11th", x::addWord, Due.STATE);
        Due.is("no 11th", () -> x.lock(10, -1), Due.OUT);
    }

    private static void upToFiveSenses() {
        Due.sentence("A word has up to 5 different senses");
        SenseNet x = Nets.of(7);
        Nets.words(x, Nets.row(0, 1, 2, 3));
        Due.is("different: the first again", () -> x.give(0, 0), Due.STATE);
        Due.is("different: the last again", () -> x.give(0, 3), Due.STATE);
        Due.is("the 5th", () -> x.give(0, 4), 5);
        Due.is("the 6th", () -> x.give(0, 5), Due.STATE);
        x.say(0);
        Due.is("5 choices", x::choices, 5);
        x.take(0, 0);
        Due.is("the 5th again", () -> x.give(0, 5), 5);
        Due.is("the 6th still not", () -> x.give(0, 6), Due.STATE);
    }

    private static void inTheOrderGiven() {
        Due.sentence("in the order in which they are given to it");
        SenseNet x = Nets.of(5);
        Nets.words(x, Nets.row(3, 0, 4, 1, 2));
        x.say(0);
        for (int first : new int[] {3, 0, 4, 1}) {
            Due.is("the first one now", () -> x.chosen(0, 0), first);
            x.take(0, first);
        }
        x.give(0, 3);
        x.take(0, 2);
        Due.is("given again it stood last", () -> x.chosen(0, 0), 3);
        x.give(0, 2);
        x.give(0, 0);
        x.take(0, 2);
        x.take(0, 3);
        Due.is("one taken from between", () -> x.chosen(0, 0), 0);
    }

    private static void lockedToOne() {
        Due.sentence("it can be locked to one of them");
        SenseNet x = Nets.of(6);
        Nets.words(x, Nets.row(0, 1, 2, 3, 4), Nets.row(5));
        Due.is("at first to none", () -> x.lock(0, 0), -1);
        Due.is("to the last one", () -> x.lock(0, 4), 0);
        Due.is("to one of another word", () -> x.lock(0, 5), Due.STATE);
        Due.is("still to the last one", () -> x.lock(0, -1), 4);
        Due.is("to none, twice", () -> x.lock(0, -1), -1);
        Due.is("to its only one", () -> x.lock(1, 5), -1);
        Due.is("to its only one again", () -> x.lock(1, 5), 5);
    }

    private static void atMostSixWords() {
        Due.sentence("The sentence is a row of at most 6 words");
        SenseNet x = Nets.of(1);
        Nets.words(x, Nets.row(0));
        Nets.say(x, 0, 0, 0, 0, 0);
        Due.is("no 6th place yet", () -> x.chosen(5, 0), Due.OUT);
        Due.is("the 6th", () -> x.say(0), 6);
        Due.is("the 6th place", () -> x.chosen(5, 0), 0);
        Due.is("the 7th", () -> x.say(0), Due.STATE);
        Due.is("6 places", x::hush, 6);
        Due.is("the first again", () -> x.say(0), 1);
    }

    private static void severalTimes() {
        Due.sentence("in which a word can come several times");
        SenseNet x = Nets.of(5);
        Nets.words(x, Nets.row(1, 0), Nets.row(2, 3, 4));
        Nets.say(x, 0, 1, 0, 0, 1);
        Due.is("each place chooses for itself", x::choices, 2 * 3 * 2 * 2 * 3);
        Due.is("the third place", () -> x.chosen(2, 0), 1);
        Due.is("the last place", () -> x.chosen(4, 0), 2);
        x.hush();
        Nets.say(x, 1, 1, 1, 1, 1, 1);
        Due.is("at all six places", x::choices, 729);
        Due.is("the same sense everywhere", () -> x.chosen(5, 0), 2);
    }

    private static void theLockedOne() {
        Due.sentence("A choice gives each place of the sentence a sense of its word, and the locked one if the word is locked.");
        SenseNet x = Nets.linked(6, new int[] {0, 5}, new int[] {1, 5});
        Nets.words(x, Nets.row(0, 1, 2), Nets.row(1, 2, 3, 4));
        Nets.say(x, 0, 1, 0);
        Due.is("none is locked", x::choices, 36);
        Due.is("none is locked: alike", () -> x.bestWorth(0), 30000);
        x.lock(0, 0);
        Due.is("locked at both its places", x::choices, 4);
        Due.is("first place", () -> x.chosen(0, 0), 0);
        Due.is("second place", () -> x.chosen(1, 0), 1);
        Due.is("third place", () -> x.chosen(2, 0), 0);
        Due.is("worth when locked", () -> x.bestWorth(0), 16666);
        Due.is("greatest worth when locked", () -> x.greatestWorth(0), 16666);
        x.lock(1, 4);
        Due.is("all are locked", x::choices, 1);
        Due.is("locked to the last one", () -> x.chosen(1, 0), 4);
        Due.is("worth when all are locked", () -> x.bestWorth(0), 10000);
        x.lock(0, -1);
        Due.is("one is unlocked", x::choices, 9);
        x.give(1, 0);
        Due.is("given to a locked word", x::choices, 9);
        x.take(1, 4);
        Due.is("the locked one is taken", x::choices, 36);
        Due.is("not locked any more", () -> x.bestWorth(0), 30000);
    }

    private static void eachTwoPlaces() {
        Due.sentence("The worth of a choice is the sum of the likeness of the senses of each two places.");
        SenseNet x = Nets.chain(6);
        Nets.words(x, Nets.row(0), Nets.row(1), Nets.row(3), Nets.row(5));
        int[] due = {0, 5000, 5000 + 2500 + 3333, 10833 + 1666 + 2000 + 3333, 17832 + 10000 + 5000 + 2500 + 1666};
        int[] said = {0, 1, 2, 3, 0};
        for (int place = 0; place < said.length; place++) {
            x.say(said[place]);
            int places = place + 1;
            Due.is(places + " places", () -> x.bestWorth(0), due[places - 1]);
            Due.is(places + " places, all tried", () -> x.greatestWorth(0), due[places - 1]);
        }
        x.hush();
        Nets.say(x, 0, 0, 0, 0, 0, 0);
        Due.is("fifteen times each two of six", () -> x.bestWorth(0), 150000);
        Due.is("fifteen times, all tried", () -> x.greatestWorth(0), 150000);
    }

    private static void theGreatestWorth() {
        Due.sentence("The best choice is the one with the greatest worth");
        SenseNet x = Nets.linked(14, new int[] {4, 5}, new int[] {9, 5});
        Nets.words(x, Nets.row(0, 1, 2, 3, 4), Nets.row(5, 6, 7, 8, 9));
        Nets.say(x, 0, 1);
        Due.is("the first one of all with a worth", () -> x.chosen(0, 0), 4);
        Due.is("its second place", () -> x.chosen(1, 0), 5);
        Due.is("its worth", () -> x.bestWorth(0), 5000);
        x.take(1, 5);
        x.give(1, 4);
        Due.is("the very last choice", () -> x.chosen(1, 0), 4);
        Due.is("the very last choice's first place", () -> x.chosen(0, 0), 4);
        Due.is("the very last choice's worth", () -> x.bestWorth(0), 10000);
        Due.is("the same, all tried", () -> x.greatestWorth(0), 10000);
        SenseNet y = Nets.linked(30, new int[] {28, 29});
        for (int word = 0; word < 6; word++) {
            Nets.words(y, Nets.row(4 * word, 4 * word + 1, 4 * word + 2, 4 * word + 3, word < 5 ? 28 : 29));
            y.say(word);
        }
        Due.is("the very last of 15625", () -> y.bestWorth(0), 10 * 10000 + 5 * 5000);
        Due.is("the very last of 15625, all tried", () -> y.greatestWorth(0), 10 * 10000 + 5 * 5000);
        Due.is("its first place", () -> y.chosen(0, 0), 28);
        Due.is("its fifth place", () -> y.chosen(4, 0), 28);
        Due.is("its sixth place", () -> y.chosen(5, 0), 29);
        y.hush();
        Nets.say(y, 5, 4, 3, 2, 1, 0);
        Due.is("the words turned round", () -> y.bestWorth(0), 10 * 10000 + 5 * 5000);
        Due.is("the words turned round, all tried", () -> y.greatestWorth(0), 10 * 10000 + 5 * 5000);
        Due.is("its first place", () -> y.chosen(0, 0), 29);
        Due.is("its second place", () -> y.chosen(1, 0), 28);
        Due.is("its sixth place", () -> y.chosen(5, 0), 28);
    }

    private static void theFirstOfSeveral() {
        Due.sentence("of several the one that comes first: choices are compared by the senses at the first place");
        SenseNet x = Nets.of(6);
        Nets.words(x, Nets.row(0, 1, 2), Nets.row(3, 2, 1));
        Nets.say(x, 0, 1);
        Due.is("1 and 1 goes before 2 and 2", () -> x.chosen(0, 0), 1);
        Due.is("though 2 comes first at the second place", () -> x.chosen(1, 0), 1);
        Due.is("all worths 0: the first sense", () -> x.chosen(0, 2), 0);
        Due.is("all worths 0: the first sense of the second place", () -> x.chosen(1, 2), 3);
    }

    private static void thenTheSecondPlaceAndSoOn() {
        Due.sentence("then by those at the second place, and so on");
        SenseNet x = Nets.of(6);
        Nets.words(x, Nets.row(0), Nets.row(2, 1), Nets.row(5, 4));
        Nets.say(x, 0, 1, 2, 1);
        // Alike are only the second and the fourth place: 2 and 2, or 1 and 1.
        Due.is("the second place", () -> x.chosen(1, 0), 2);
        Due.is("the third place", () -> x.chosen(2, 0), 5);
        Due.is("the fourth place", () -> x.chosen(3, 0), 2);
        x.hush();
        Nets.say(x, 0, 0, 0, 0, 0, 2);
        Due.is("the sixth place alone decides", () -> x.chosen(5, 0), 5);
        x.take(2, 5);
        x.give(2, 5);
        Due.is("the sixth place, turned round", () -> x.chosen(5, 0), 4);
        x.hush();
        Nets.say(x, 2, 2, 2, 2, 1, 1);
        int[] due = {4, 4, 4, 4, 2, 2};
        for (int place = 0; place < 6; place++) {
            int at = place;
            Due.is("place " + at + " of six", () -> x.chosen(at, 0), due[at]);
        }
        SenseNet y = Nets.of(12);
        for (int word = 0; word < 6; word++) {
            Nets.words(y, Nets.row(11 - word, word));
            y.say(word);
        }
        for (int place = 0; place < 6; place++) {
            int at = place;
            Due.is("all worths 0, place " + at, () -> y.chosen(at, 0), 11 - at);
        }
    }

    private static void asTheyStandInTheWord() {
        Due.sentence("as they stand in the order of the word");
        SenseNet x = Nets.of(30);
        Nets.words(x, Nets.row(29, 0, 15));
        x.say(0);
        Due.is("not by their numbers", () -> x.chosen(0, 0), 29);
        x.say(0);
        Due.is("not by their numbers at the first of two", () -> x.chosen(0, 1), 29);
        Due.is("not by their numbers at the second of two", () -> x.chosen(1, 1), 29);
        x.take(0, 29);
        x.give(0, 29);
        Due.is("the order of now", () -> x.chosen(0, 0), 0);
    }

    private static SenseNet asked() {
        SenseNet x = Nets.linked(6, new int[] {0, 2}, new int[] {1, 2}, new int[] {2, 3}, new int[] {4, 3});
        Nets.counts(x, 1, 2, 4, 8, 16, 32);
        Nets.words(x, Nets.row(0, 1), Nets.row(4, 5), Nets.row(1, 0));
        x.lock(2, 0);
        Nets.say(x, 0, 1, 2);
        return x;
    }

    private static void askingChangesNothing() {
        Due.sentence("---- the net; nothing from here on changes anything.");
        SenseNet x = asked();
        SenseNet fresh = asked();
        String once = Probe.sentence(x);
        Due.compare("the net after choices", Probe.net(x), Probe.net(fresh));
        Due.compare("the choices after the net", Probe.sentence(x), once);
        SenseNet y = asked();
        int first = y.chosen(0, 0);
        y.bestWorth(1);
        y.greatestWorth(2);
        Due.is("other measures between", () -> y.chosen(0, 0), first);
        Probe.sentence(y);
        Due.compare("words and sentence after all", Probe.words(y), Probe.words(asked()));
    }
}
