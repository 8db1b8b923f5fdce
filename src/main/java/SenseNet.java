/**
 * A net of senses of words. The face checks what it is given and throws; the
 * classes inside it are only called with what has been checked, and still look
 * at every index, so that the machine itself never throws.
 */
public final class SenseNet {
    private static final int MOST_SENSES = 30;
    private static final int MOST_PARENTS = 4;
    private static final int MOST_COUNT = 1000;
    private static final int MOST_WORDS = 10;
    private static final int MOST_OF_A_WORD = 5;
    private static final int MOST_PLACES = 6;
    private static final int MOST_OPTIONS = MOST_PLACES * MOST_OF_A_WORD;
    private static final int MEASURES = 3;
    private static final int FULL = 10000;
    private static final int NONE = -1;

    private final Net net;
    private final Words words;
    private final Chooser chooser;

    public SenseNet() {
        net = new Net();
        words = new Words();
        chooser = new Chooser();
    }

    // ---- senses

    public int addSense() throws IllegalStateException {
        if (net.added >= MOST_SENSES) {
            throw new IllegalStateException("30 senses were added");
        }
        return net.addOne();
    }

    public int link(int sense, int parent) throws IndexOutOfBoundsException, IllegalStateException {
        needSense(sense);
        needSense(parent);
        if (net.isParent(sense, parent)) {
            throw new IllegalStateException("it is a parent already");
        }
        if (net.parentCount(sense) >= MOST_PARENTS) {
            throw new IllegalStateException("the sense has 4 parents");
        }
        if (net.covers(sense, parent)) {
            throw new IllegalStateException("a sense would be above itself");
        }
        return net.putBelow(sense, parent);
    }

    public int unlink(int sense, int parent) throws IndexOutOfBoundsException, IllegalStateException {
        needSense(sense);
        needSense(parent);
        if (!net.isParent(sense, parent)) {
            throw new IllegalStateException("it is no parent of the sense");
        }
        return net.cut(sense, parent);
    }

    public int remove(int sense) throws IndexOutOfBoundsException, IllegalStateException {
        needSense(sense);
        if (words.anyHas(sense)) {
            throw new IllegalStateException("a word has the sense");
        }
        if (!net.canLose(sense)) {
            throw new IllegalStateException("a sense would have more than 4 parents");
        }
        return net.lose(sense);
    }

    public int setCount(int sense, int count) throws IndexOutOfBoundsException, IllegalArgumentException {
        needSense(sense);
        if (count < 0 || count > MOST_COUNT) {
            throw new IllegalArgumentException("count is out of range");
        }
        return net.recount(sense, count);
    }

    // ---- words and the sentence

    public int addWord() throws IllegalStateException {
        if (words.known >= MOST_WORDS) {
            throw new IllegalStateException("there are 10 words");
        }
        return words.addOne();
    }

    public int give(int word, int sense) throws IndexOutOfBoundsException, IllegalStateException {
        needWord(word);
        needSense(sense);
        if (words.has(word, sense)) {
            throw new IllegalStateException("the word has the sense");
        }
        if (words.size(word) >= MOST_OF_A_WORD) {
            throw new IllegalStateException("the word has 5 senses");
        }
        return words.append(word, sense);
    }

    public int take(int word, int sense) throws IndexOutOfBoundsException, IllegalStateException {
        needWord(word);
        needSense(sense);
        if (!words.has(word, sense)) {
            throw new IllegalStateException("the word does not have the sense");
        }
        if (words.size(word) == 1 && words.isSaid(word)) {
            throw new IllegalStateException("it is the only sense of a word of the sentence");
        }
        return words.drop(word, sense);
    }

    public int lock(int word, int sense) throws IndexOutOfBoundsException, IllegalStateException {
        needWord(word);
        if (sense != NONE && !words.has(word, sense)) {
            throw new IllegalStateException("the word does not have the sense");
        }
        return words.relock(word, sense);
    }

    public int say(int word) throws IndexOutOfBoundsException, IllegalStateException {
        needWord(word);
        if (words.places >= MOST_PLACES) {
            throw new IllegalStateException("the sentence has 6 places");
        }
        if (words.size(word) == 0) {
            throw new IllegalStateException("the word has no senses");
        }
        return words.putBehind(word);
    }

    public int hush() {
        return words.emptySentence();
    }

    // ---- the net; nothing from here on changes anything

    public int senses() {
        return net.present;
    }

    public int parents(int sense) throws IndexOutOfBoundsException {
        needSense(sense);
        return net.parentSet(sense);
    }

    public int above(int sense) throws IndexOutOfBoundsException {
        needSense(sense);
        return net.coverSet(sense) & ~bit(sense);
    }

    public int below(int sense) throws IndexOutOfBoundsException {
        needSense(sense);
        return net.coveredSet(sense) & ~bit(sense);
    }

    public int mass(int sense) throws IndexOutOfBoundsException {
        needSense(sense);
        return net.coveredCount(sense);
    }

    public int massByWalks(int sense) throws IndexOutOfBoundsException {
        needSense(sense);
        return net.walkedCount(sense);
    }

    public int depth(int sense) throws IndexOutOfBoundsException {
        needSense(sense);
        return net.stepsToTop(sense);
    }

    public int shared(int sense, int other) throws IndexOutOfBoundsException {
        needSense(sense);
        needSense(other);
        return net.tellingCover(sense, other);
    }

    public int distance(int sense, int other) throws IndexOutOfBoundsException {
        needSense(sense);
        needSense(other);
        return net.stepsBetween(sense, other);
    }

    public int likeness(int sense, int other, int measure)
            throws IndexOutOfBoundsException, IllegalArgumentException {
        needSense(sense);
        needSense(other);
        needMeasure(measure);
        return net.alike(sense, other, measure);
    }

    // ---- choices

    public int choices() {
        int product = 1;
        for (int place = 0; place < words.places; place++) {
            product *= words.optionCount(words.wordAt(place));
        }
        return product;
    }

    public int bestWorth(int measure) throws IllegalArgumentException {
        needMeasure(measure);
        chooser.prepare(net, words, measure);
        return chooser.findBest();
    }

    public int greatestWorth(int measure) throws IllegalArgumentException {
        needMeasure(measure);
        chooser.prepare(net, words, measure);
        return chooser.findGreatest();
    }

    public int chosen(int place, int measure) throws IndexOutOfBoundsException, IllegalArgumentException {
        if (place < 0 || place >= words.places) {
            throw new IndexOutOfBoundsException("no such place");
        }
        needMeasure(measure);
        chooser.prepare(net, words, measure);
        chooser.findBest();
        return chooser.bestSense(place);
    }

    private void needSense(int sense) {
        if (!net.exists(sense)) {
            throw new IndexOutOfBoundsException("no such sense");
        }
    }

    private void needWord(int word) {
        if (!words.exists(word)) {
            throw new IndexOutOfBoundsException("no such word");
        }
    }

    private void needMeasure(int measure) {
        if (measure < 0 || measure >= MEASURES) {
            throw new IllegalArgumentException("measure is out of range");
        }
    }

    private static int bit(int sense) {
        return sense >= 0 && sense < MOST_SENSES ? 1 << sense : 0;
    }

    private static boolean holds(int set, int sense) {
        return (set & bit(sense)) != 0;
    }

    // Every row is read and written through these two, so that an index is
    // looked at in one place; an index outside never comes from checked calls.
    private static int at(int[] row, int index) {
        return row != null && index >= 0 && index < row.length ? row[index] : 0;
    }

    private static void put(int[] row, int index, int value) {
        if (row != null && index >= 0 && index < row.length) {
            row[index] = value;
        }
    }

    /**
     * The senses, their parents and counts. What follows from the links and
     * counts is worked out after each edit, since choices ask for it often.
     */
    private static final class Net {
        int added;
        int present;
        private final int[] parentSets;
        private final int[] counts;
        private final int[] coverSets;
        private final int[] masses;
        private final int[] depths;
        private final int[] steps;
        private final int[] walked;

        Net() {
            added = 0;
            present = 0;
            parentSets = new int[MOST_SENSES];
            counts = new int[MOST_SENSES];
            coverSets = new int[MOST_SENSES];
            masses = new int[MOST_SENSES];
            depths = new int[MOST_SENSES];
            steps = new int[MOST_SENSES * MOST_SENSES];
            walked = new int[MOST_SENSES];
        }

        boolean exists(int sense) {
            return holds(present, sense);
        }

        boolean isParent(int sense, int parent) {
            return holds(at(parentSets, sense), parent);
        }

        int parentSet(int sense) {
            return at(parentSets, sense);
        }

        int parentCount(int sense) {
            return Integer.bitCount(at(parentSets, sense));
        }

        /** The sense itself and all above it. */
        int coverSet(int sense) {
            return at(coverSets, sense);
        }

        boolean covers(int sense, int covered) {
            return holds(at(coverSets, covered), sense);
        }

        /** The sense itself and all below it. */
        int coveredSet(int sense) {
            int set = 0;
            for (int covered = 0; covered < MOST_SENSES; covered++) {
                if (holds(at(coverSets, covered), sense)) {
                    set |= bit(covered);
                }
            }
            return set;
        }

        int coveredCount(int sense) {
            return at(masses, sense);
        }

        int stepsToTop(int sense) {
            return at(depths, sense);
        }

        int addOne() {
            int sense = added;
            added++;
            present |= bit(sense);
            settle();
            return sense;
        }

        int putBelow(int sense, int parent) {
            put(parentSets, sense, at(parentSets, sense) | bit(parent));
            settle();
            return parentCount(sense);
        }

        int cut(int sense, int parent) {
            put(parentSets, sense, at(parentSets, sense) & ~bit(parent));
            settle();
            return parentCount(sense);
        }

        /** Whether no sense would have too many parents without this one. */
        boolean canLose(int sense) {
            for (int child = 0; child < MOST_SENSES; child++) {
                if (isParent(child, sense)
                        && Integer.bitCount(parentsWithout(child, sense)) > MOST_PARENTS) {
                    return false;
                }
            }
            return true;
        }

        int lose(int sense) {
            int children = 0;
            for (int child = 0; child < MOST_SENSES; child++) {
                if (isParent(child, sense)) {
                    put(parentSets, child, parentsWithout(child, sense));
                    children++;
                }
            }
            put(parentSets, sense, 0);
            put(counts, sense, 0);
            present &= ~bit(sense);
            settle();
            return children;
        }

        int recount(int sense, int count) {
            int before = at(counts, sense);
            put(counts, sense, count);
            weigh();
            return before;
        }

        private int parentsWithout(int child, int sense) {
            return (at(parentSets, child) | at(parentSets, sense)) & ~bit(sense);
        }

        private int parentsOfAll(int set) {
            int found = 0;
            for (int sense = 0; sense < MOST_SENSES; sense++) {
                if (holds(set, sense)) {
                    found |= at(parentSets, sense);
                }
            }
            return found;
        }

        private void settle() {
            for (int sense = 0; sense < MOST_SENSES; sense++) {
                climb(sense);
            }
            weigh();
        }

        // Level by level, so that each sense above is first met by its least steps.
        private void climb(int sense) {
            int met = 0;
            int depth = NONE;
            int level = exists(sense) ? bit(sense) : 0;
            for (int step = 0; step < MOST_SENSES && level != 0; step++) {
                noteSteps(sense, level, step);
                if (depth == NONE && hasTop(level)) {
                    depth = step;
                }
                met |= level;
                level = parentsOfAll(level) & ~met;
            }
            put(coverSets, sense, met);
            put(depths, sense, depth);
        }

        private void noteSteps(int sense, int level, int step) {
            for (int cover = 0; cover < MOST_SENSES; cover++) {
                if (holds(level, cover)) {
                    put(steps, sense * MOST_SENSES + cover, step);
                }
            }
        }

        private boolean hasTop(int set) {
            for (int sense = 0; sense < MOST_SENSES; sense++) {
                if (holds(set, sense) && at(parentSets, sense) == 0) {
                    return true;
                }
            }
            return false;
        }

        private void weigh() {
            for (int sense = 0; sense < MOST_SENSES; sense++) {
                put(masses, sense, countOfAll(coveredSet(sense)));
            }
        }

        private int countOfAll(int set) {
            int sum = 0;
            for (int sense = 0; sense < MOST_SENSES; sense++) {
                if (holds(set, sense)) {
                    sum += at(counts, sense);
                }
            }
            return sum;
        }

        int walkedCount(int sense) {
            for (int each = 0; each < MOST_SENSES; each++) {
                put(walked, each, 0);
            }
            for (int each = 0; each < MOST_SENSES; each++) {
                if (exists(each)) {
                    carryUp(each);
                }
            }
            return at(walked, sense);
        }

        private void carryUp(int sense) {
            int count = at(counts, sense);
            int met = 0;
            int level = bit(sense);
            for (int step = 0; step < MOST_SENSES && level != 0; step++) {
                for (int cover = 0; cover < MOST_SENSES; cover++) {
                    if (holds(level, cover)) {
                        put(walked, cover, at(walked, cover) + count);
                    }
                }
                met |= level;
                level = parentsOfAll(level) & ~met;
            }
        }

        /** The shared sense of two senses, NONE if no sense covers both. */
        int tellingCover(int sense, int other) {
            int common = at(coverSets, sense) & at(coverSets, other);
            int best = NONE;
            for (int cover = 0; cover < MOST_SENSES; cover++) {
                if (holds(common, cover) && (best == NONE || saysMore(cover, best))) {
                    best = cover;
                }
            }
            return best;
        }

        private boolean saysMore(int cover, int best) {
            int mass = at(masses, cover);
            int least = at(masses, best);
            return mass < least || mass == least && at(depths, cover) > at(depths, best);
        }

        int stepsBetween(int sense, int other) {
            int common = at(coverSets, sense) & at(coverSets, other);
            int least = NONE;
            for (int cover = 0; cover < MOST_SENSES; cover++) {
                if (holds(common, cover)) {
                    int sum = at(steps, sense * MOST_SENSES + cover) + at(steps, other * MOST_SENSES + cover);
                    least = least == NONE ? sum : Math.min(least, sum);
                }
            }
            return least;
        }

        int alike(int sense, int other, int measure) {
            int cover = tellingCover(sense, other);
            if (cover == NONE) {
                return 0;
            }
            if (measure == 0) {
                return quotient(FULL, 1 + stepsBetween(sense, other));
            }
            if (measure == 1) {
                int both = at(depths, sense) + 1 + at(depths, other) + 1;
                // Steps past a deeper sense can leave the shared sense deeper than both.
                return Math.min(FULL, quotient(2 * FULL * (at(depths, cover) + 1), both));
            }
            int whole = countOfAll(present);
            return quotient(FULL * (whole - at(masses, cover)), whole);
        }

        private static int quotient(int dividend, int divisor) {
            return divisor > 0 ? dividend / divisor : 0;
        }
    }

    /** The words with their senses in order, their locks, and the sentence. */
    private static final class Words {
        int known;
        int places;
        private final int[] given;
        private final int[] sizes;
        private final int[] locks;
        private final int[] sentence;

        Words() {
            known = 0;
            places = 0;
            given = new int[MOST_WORDS * MOST_OF_A_WORD];
            sizes = new int[MOST_WORDS];
            locks = new int[MOST_WORDS];
            sentence = new int[MOST_PLACES];
        }

        boolean exists(int word) {
            return word >= 0 && word < known;
        }

        int size(int word) {
            return at(sizes, word);
        }

        boolean has(int word, int sense) {
            return rankOf(word, sense) != NONE;
        }

        boolean anyHas(int sense) {
            for (int word = 0; word < known; word++) {
                if (has(word, sense)) {
                    return true;
                }
            }
            return false;
        }

        boolean isSaid(int word) {
            for (int place = 0; place < places; place++) {
                if (at(sentence, place) == word) {
                    return true;
                }
            }
            return false;
        }

        int wordAt(int place) {
            return at(sentence, place);
        }

        /** How many senses a choice can give to a place with the word. */
        int optionCount(int word) {
            return at(locks, word) == NONE ? at(sizes, word) : 1;
        }

        int option(int word, int rank) {
            int locked = at(locks, word);
            return locked == NONE ? at(given, word * MOST_OF_A_WORD + rank) : locked;
        }

        int addOne() {
            int word = known;
            known++;
            put(sizes, word, 0);
            put(locks, word, NONE);
            return word;
        }

        int append(int word, int sense) {
            int size = at(sizes, word);
            put(given, word * MOST_OF_A_WORD + size, sense);
            put(sizes, word, size + 1);
            return size + 1;
        }

        int drop(int word, int sense) {
            int size = at(sizes, word) - 1;
            int row = word * MOST_OF_A_WORD;
            for (int rank = rankOf(word, sense); rank >= 0 && rank < size; rank++) {
                put(given, row + rank, at(given, row + rank + 1));
            }
            put(sizes, word, size);
            if (at(locks, word) == sense) {
                put(locks, word, NONE);
            }
            return size;
        }

        int relock(int word, int sense) {
            int before = at(locks, word);
            put(locks, word, sense);
            return before;
        }

        int putBehind(int word) {
            put(sentence, places, word);
            places++;
            return places;
        }

        int emptySentence() {
            int before = places;
            places = 0;
            return before;
        }

        private int rankOf(int word, int sense) {
            int size = at(sizes, word);
            for (int rank = 0; rank < size; rank++) {
                if (at(given, word * MOST_OF_A_WORD + rank) == sense) {
                    return rank;
                }
            }
            return NONE;
        }
    }

    /**
     * Tries the choices for a sentence. An option is a sense that a place can
     * get; options are numbered by place and rank, so that the likeness of
     * each two is worked out once for all the choices that have them. The hope
     * of a place is what it and those behind it can add to the worth at most.
     */
    private static final class Chooser {
        private int places;
        private int best;
        private final int[] sizes;
        private final int[] options;
        private final int[] alike;
        private final int[] hopes;
        private final int[] picks;
        private final int[] bestPicks;

        Chooser() {
            places = 0;
            best = NONE;
            sizes = new int[MOST_PLACES];
            options = new int[MOST_OPTIONS];
            alike = new int[MOST_OPTIONS * MOST_OPTIONS];
            hopes = new int[MOST_PLACES + 1];
            picks = new int[MOST_PLACES];
            bestPicks = new int[MOST_PLACES];
        }

        void prepare(Net net, Words words, int measure) {
            places = 0;
            if (net == null || words == null) {
                return;
            }
            places = Math.min(words.places, MOST_PLACES);
            for (int place = 0; place < places; place++) {
                layOut(words, place);
            }
            put(hopes, places, 0);
            for (int place = places - 1; place >= 0; place--) {
                int most = 0;
                for (int earlier = 0; earlier < place; earlier++) {
                    most += compare(net, earlier, place, measure);
                }
                put(hopes, place, at(hopes, place + 1) + most);
            }
        }

        int findBest() {
            best = NONE;
            seek(this, 0, 0);
            return best;
        }

        int findGreatest() {
            return greatest(this, 0, 0);
        }

        int bestSense(int place) {
            return at(options, at(bestPicks, place));
        }

        private void layOut(Words words, int place) {
            int word = words.wordAt(place);
            int size = words.optionCount(word);
            put(sizes, place, size);
            for (int rank = 0; rank < size; rank++) {
                put(options, place * MOST_OF_A_WORD + rank, words.option(word, rank));
            }
        }

        /** Works out the likeness of each two options of two places; the greatest one. */
        private int compare(Net net, int earlier, int later, int measure) {
            int most = 0;
            int end = earlier * MOST_OF_A_WORD + at(sizes, earlier);
            int otherEnd = later * MOST_OF_A_WORD + at(sizes, later);
            for (int one = earlier * MOST_OF_A_WORD; one < end; one++) {
                for (int other = later * MOST_OF_A_WORD; other < otherEnd; other++) {
                    int value = net.alike(at(options, one), at(options, other), measure);
                    put(alike, other * MOST_OPTIONS + one, value);
                    most = Math.max(most, value);
                }
            }
            return most;
        }

        /** What an option adds to the worth, the places before it having their picks. */
        private int gain(int place, int option) {
            int sum = 0;
            for (int earlier = 0; earlier < place; earlier++) {
                sum += at(alike, option * MOST_OPTIONS + at(picks, earlier));
            }
            return sum;
        }

        private void keep(int worth) {
            best = worth;
            for (int place = 0; place < places; place++) {
                put(bestPicks, place, at(picks, place));
            }
        }

        // Choices come in their order, so that only a greater worth displaces the best one.
        private static void seek(Chooser chooser, int place, int worth) {
            if (chooser == null || place > MOST_PLACES
                    || worth + at(chooser.hopes, place) <= chooser.best) {
                return;
            }
            if (place >= chooser.places) {
                chooser.keep(worth);
                return;
            }
            int first = place * MOST_OF_A_WORD;
            int end = first + at(chooser.sizes, place);
            for (int option = first; option < end; option++) {
                put(chooser.picks, place, option);
                seek(chooser, place + 1, worth + chooser.gain(place, option));
            }
        }

        private static int greatest(Chooser chooser, int place, int worth) {
            if (chooser == null || place > MOST_PLACES || place >= chooser.places) {
                return worth;
            }
            int most = 0;
            int first = place * MOST_OF_A_WORD;
            int end = first + at(chooser.sizes, place);
            for (int option = first; option < end; option++) {
                put(chooser.picks, place, option);
                most = Math.max(most, greatest(chooser, place + 1, worth + chooser.gain(place, option)));
            }
            return most;
        }
    }
}
