import java.util.ArrayList;
import java.util.Arrays;
import java.util.Collections;
import java.util.List;
import java.util.Map;
import java.util.Set;
import java.util.TreeMap;
import java.util.TreeSet;

/** The document's words taken one by one, in library collections and without any shortcut. */
final class NaiveNet {
    private static final class Word {
        final List<Integer> senses = new ArrayList<>();
        Integer locked = null;
    }

    private final Map<Integer, Set<Integer>> parents = new TreeMap<>();
    private final Map<Integer, Integer> counts = new TreeMap<>();
    private final List<Word> words = new ArrayList<>();
    private final List<Word> sentence = new ArrayList<>();
    private int added = 0;

    int addSense() {
        refuse(added == 30);
        parents.put(added, new TreeSet<>());
        counts.put(added, 0);
        return added++;
    }

    int link(int sense, int parent) {
        need(sense);
        need(parent);
        Set<Integer> row = parents.get(sense);
        refuse(row.contains(parent) || row.size() == 4);
        row.add(parent);
        boolean round = aboveSet(sense).contains(sense);
        if (round) {
            row.remove(parent);
        }
        refuse(round);
        return row.size();
    }

    int unlink(int sense, int parent) {
        need(sense);
        need(parent);
        refuse(!parents.get(sense).remove(parent));
        return parents.get(sense).size();
    }

    int remove(int sense) {
        need(sense);
        for (Word word : words) {
            refuse(word.senses.contains(sense));
        }
        Map<Integer, Set<Integer>> changed = new TreeMap<>();
        for (int child : parents.keySet()) {
            if (parents.get(child).contains(sense)) {
                Set<Integer> row = new TreeSet<>(parents.get(child));
                row.remove(sense);
                row.addAll(parents.get(sense));
                refuse(row.size() > 4);
                changed.put(child, row);
            }
        }
        parents.putAll(changed);
        parents.remove(sense);
        counts.remove(sense);
        return changed.size();
    }

    int setCount(int sense, int count) {
        need(sense);
        if (count < 0 || count > 1000) {
            throw new IllegalArgumentException();
        }
        return counts.put(sense, count);
    }

    int addWord() {
        refuse(words.size() == 10);
        words.add(new Word());
        return words.size() - 1;
    }

    int give(int number, int sense) {
        Word word = word(number);
        need(sense);
        refuse(word.senses.contains(sense) || word.senses.size() == 5);
        word.senses.add(sense);
        return word.senses.size();
    }

    int take(int number, int sense) {
        Word word = word(number);
        need(sense);
        refuse(!word.senses.contains(sense));
        refuse(word.senses.size() == 1 && sentence.contains(word));
        word.senses.remove((Integer) sense);
        if (word.locked != null && word.locked == sense) {
            word.locked = null;
        }
        return word.senses.size();
    }

    int lock(int number, int sense) {
        Word word = word(number);
        refuse(sense != -1 && !word.senses.contains(sense));
        int before = word.locked == null ? -1 : word.locked;
        word.locked = sense == -1 ? null : (Integer) sense;
        return before;
    }

    int say(int number) {
        Word word = word(number);
        refuse(sentence.size() == 6 || word.senses.isEmpty());
        sentence.add(word);
        return sentence.size();
    }

    int hush() {
        int places = sentence.size();
        sentence.clear();
        return places;
    }

    int senses() {
        return bits(parents.keySet());
    }

    int parents(int sense) {
        need(sense);
        return bits(parents.get(sense));
    }

    int above(int sense) {
        need(sense);
        return bits(aboveSet(sense));
    }

    int below(int sense) {
        need(sense);
        Set<Integer> found = covered(sense);
        found.remove(sense);
        return bits(found);
    }

    int mass(int sense) {
        need(sense);
        int sum = 0;
        for (int each : covered(sense)) {
            sum += counts.get(each);
        }
        return sum;
    }

    int depth(int sense) {
        need(sense);
        int steps = 0;
        for (Set<Integer> level = Set.of(sense); !hasTop(level); level = next(level)) {
            steps++;
        }
        return steps;
    }

    int shared(int sense, int other) {
        need(sense);
        need(other);
        List<int[]> rows = new ArrayList<>();
        for (int cover : common(sense, other)) {
            rows.add(new int[] {mass(cover), -depth(cover), cover});
        }
        return rows.isEmpty() ? -1 : Collections.min(rows, Arrays::compare)[2];
    }

    int distance(int sense, int other) {
        need(sense);
        need(other);
        List<Integer> sums = new ArrayList<>();
        for (int cover : common(sense, other)) {
            sums.add(steps(sense, cover) + steps(other, cover));
        }
        return sums.isEmpty() ? -1 : Collections.min(sums);
    }

    int likeness(int sense, int other, int measure) {
        need(sense);
        need(other);
        needMeasure(measure);
        int cover = shared(sense, other);
        if (cover == -1) {
            return 0;
        }
        if (measure == 0) {
            return 10000 / (1 + distance(sense, other));
        }
        if (measure == 1) {
            return Math.min(10000, 20000 * (depth(cover) + 1) / (depth(sense) + 1 + depth(other) + 1));
        }
        int whole = 0;
        for (int count : counts.values()) {
            whole += count;
        }
        return whole == 0 ? 0 : 10000 * (whole - mass(cover)) / whole;
    }

    int choices() {
        return allChoices().size();
    }

    int bestWorth(int measure) {
        needMeasure(measure);
        int[][] alike = allLikeness(measure);
        return worth(best(alike), alike);
    }

    int chosen(int place, int measure) {
        if (place < 0 || place >= sentence.size()) {
            throw new IndexOutOfBoundsException();
        }
        needMeasure(measure);
        return best(allLikeness(measure)).get(place);
    }

    private List<Integer> best(int[][] alike) {
        List<Integer> best = null;
        int bestWorth = 0;
        for (List<Integer> choice : allChoices()) {
            int worth = worth(choice, alike);
            if (best == null || worth > bestWorth) {
                best = choice;
                bestWorth = worth;
            }
        }
        return best;
    }

    /** The likeness of each two senses of the sentence. */
    private int[][] allLikeness(int measure) {
        Set<Integer> said = new TreeSet<>();
        for (Word word : sentence) {
            said.addAll(word.senses);
        }
        int[][] alike = new int[30][30];
        for (int sense : said) {
            for (int other : said) {
                alike[sense][other] = likeness(sense, other, measure);
            }
        }
        return alike;
    }

    /** All choices, in their order. */
    private List<List<Integer>> allChoices() {
        List<List<Integer>> all = List.of(List.of());
        for (Word word : sentence) {
            List<List<Integer>> longer = new ArrayList<>();
            for (List<Integer> choice : all) {
                for (int sense : word.locked == null ? word.senses : List.of(word.locked)) {
                    List<Integer> next = new ArrayList<>(choice);
                    next.add(sense);
                    longer.add(next);
                }
            }
            all = longer;
        }
        return all;
    }

    private static int worth(List<Integer> choice, int[][] alike) {
        int sum = 0;
        for (int place = 0; place < choice.size(); place++) {
            for (int earlier = 0; earlier < place; earlier++) {
                sum += alike[choice.get(earlier)][choice.get(place)];
            }
        }
        return sum;
    }

    private Set<Integer> aboveSet(int sense) {
        Set<Integer> found = new TreeSet<>();
        List<Integer> open = new ArrayList<>(parents.get(sense));
        while (!open.isEmpty()) {
            int next = open.remove(open.size() - 1);
            if (found.add(next)) {
                open.addAll(parents.get(next));
            }
        }
        return found;
    }

    private Set<Integer> covered(int sense) {
        Set<Integer> found = new TreeSet<>(Set.of(sense));
        boolean grown = true;
        while (grown) {
            grown = false;
            for (int each : parents.keySet()) {
                if (!Collections.disjoint(found, parents.get(each))) {
                    grown |= found.add(each);
                }
            }
        }
        return found;
    }

    private List<Integer> common(int sense, int other) {
        List<Integer> found = new ArrayList<>();
        Set<Integer> one = aboveSet(sense);
        one.add(sense);
        Set<Integer> two = aboveSet(other);
        two.add(other);
        for (int each : one) {
            if (two.contains(each)) {
                found.add(each);
            }
        }
        return found;
    }

    /** The least steps up from a sense to one that covers it. */
    private int steps(int sense, int cover) {
        int steps = 0;
        for (Set<Integer> level = Set.of(sense); !level.contains(cover); level = next(level)) {
            steps++;
        }
        return steps;
    }

    private Set<Integer> next(Set<Integer> level) {
        Set<Integer> next = new TreeSet<>();
        for (int sense : level) {
            next.addAll(parents.get(sense));
        }
        return next;
    }

    private boolean hasTop(Set<Integer> level) {
        for (int sense : level) {
            if (parents.get(sense).isEmpty()) {
                return true;
            }
        }
        return false;
    }

    private static int bits(Set<Integer> set) {
        int bits = 0;
        for (int each : set) {
            bits |= 1 << each;
        }
        return bits;
    }

    private void need(int sense) {
        if (!parents.containsKey(sense)) {
            throw new IndexOutOfBoundsException();
        }
    }

    private Word word(int number) {
        if (number < 0 || number >= words.size()) {
            throw new IndexOutOfBoundsException();
        }
        return words.get(number);
    }

    private static void needMeasure(int measure) {
        if (measure < 0 || measure > 2) {
            throw new IllegalArgumentException();
        }
    }

    private static void refuse(boolean wrong) {
        if (wrong) {
            throw new IllegalStateException();
        }
    }
}
