/** What can be seen of an object's state, as a text: two objects in the same state answer alike. */
final class Probe {
    private static final int MOST_SENSES = 30;
    private static final int MOST_WORDS = 10;
    private static final int MOST_PLACES = 6;

    private Probe() {
    }

    /** The senses, their links and counts; changes nothing. */
    static String net(SenseNet x) {
        StringBuilder text = new StringBuilder();
        add(text, x::senses);
        for (int sense = 0; sense < MOST_SENSES; sense++) {
            int each = sense;
            add(text, () -> x.parents(each));
            add(text, () -> x.above(each));
            add(text, () -> x.below(each));
            add(text, () -> x.mass(each));
            add(text, () -> x.massByWalks(each));
            add(text, () -> x.depth(each));
            add(text, () -> x.shared(each, 0));
            add(text, () -> x.distance(0, each));
            add(text, () -> x.likeness(each, each, 2));
        }
        return text.toString();
    }

    /** The sentence and its choices; changes nothing. */
    static String sentence(SenseNet x) {
        StringBuilder text = new StringBuilder();
        add(text, x::choices);
        for (int measure = 0; measure < 3; measure++) {
            int by = measure;
            add(text, () -> x.bestWorth(by));
            add(text, () -> x.greatestWorth(by));
            for (int place = 0; place < MOST_PLACES; place++) {
                int at = place;
                add(text, () -> x.chosen(at, by));
            }
        }
        return text.toString();
    }

    /** The words with their locks and senses in order, what is said, and what comes next; takes it all apart. */
    static String words(SenseNet x) {
        StringBuilder text = new StringBuilder(sentence(x));
        add(text, x::hush);
        for (int word = 0; word < MOST_WORDS; word++) {
            int each = word;
            text.append(" word");
            add(text, () -> x.lock(each, -1));
            while (Due.of(() -> x.say(each)).equals("1")) {
                int sense = x.chosen(0, 0);
                x.hush();
                text.append(' ').append(sense);
                x.take(each, sense);
            }
        }
        add(text, x::addWord);
        add(text, x::addSense);
        return text.toString();
    }

    private static void add(StringBuilder text, Due.Call call) {
        text.append(' ').append(Due.of(call));
    }
}
