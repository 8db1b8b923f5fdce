/** Long runs of calls, the same each time, on the class and on the naive one. */
public final class AgainstNaiveTest {
    private static final int RUNS = 400;
    private static final int CALLS = 512;
    private static final int[] STRANGE = {-1, -2, 10, 30, 31, 32, Integer.MAX_VALUE, Integer.MIN_VALUE};

    private final SenseNet net = new SenseNet();
    private final NaiveNet naive = new NaiveNet();
    private final int run;
    private final int breadth;
    private long state;

    private AgainstNaiveTest(int run) {
        this.run = run;
        this.state = 7919L * run + 17;
        this.breadth = 3 + run % 28;
    }

    public static void main(String[] args) {
        for (int run = 0; run < RUNS && Due.wrongSoFar() == 0; run++) {
            new AgainstNaiveTest(run).go();
        }
        Due.end();
    }

    private void go() {
        for (int call = 0; call < CALLS && Due.wrongSoFar() == 0; call++) {
            int kind = next(100);
            if (call < 2 * breadth) {
                kind = call % 2 == 0 ? 0 : 4;
            }
            if (kind < 45) {
                edit(call, kind);
            } else if (kind < 65) {
                speak(call, kind - 45);
            } else if (kind < 92) {
                ask(call, kind - 65);
            } else {
                choose(call, kind - 92);
            }
        }
    }

    private void edit(int call, int kind) {
        int a = sense();
        int b = sense();
        if (kind < 4) {
            same(call, "addSense()", net::addSense, naive::addSense);
        } else if (kind < 28) {
            same(call, "link(" + a + ", " + b + ")", () -> net.link(a, b), () -> naive.link(a, b));
        } else if (kind < 32) {
            same(call, "unlink(" + a + ", " + b + ")", () -> net.unlink(a, b), () -> naive.unlink(a, b));
        } else if (kind < 34) {
            same(call, "remove(" + a + ")", () -> net.remove(a), () -> naive.remove(a));
        } else {
            int count = next(12) == 0 ? strange() : run % 3 == 0 ? next(3) : next(1002) - 1;
            same(call, "setCount(" + a + ", " + count + ")", () -> net.setCount(a, count), () -> naive.setCount(a, count));
        }
    }

    private void speak(int call, int kind) {
        int w = word();
        int a = sense();
        if (kind < 2) {
            same(call, "addWord()", net::addWord, naive::addWord);
        } else if (kind < 9) {
            same(call, "give(" + w + ", " + a + ")", () -> net.give(w, a), () -> naive.give(w, a));
        } else if (kind < 12) {
            same(call, "take(" + w + ", " + a + ")", () -> net.take(w, a), () -> naive.take(w, a));
        } else if (kind < 15) {
            int b = next(2) == 0 ? -1 : a;
            same(call, "lock(" + w + ", " + b + ")", () -> net.lock(w, b), () -> naive.lock(w, b));
        } else if (kind < 19 || next(4) != 0) {
            same(call, "say(" + w + ")", () -> net.say(w), () -> naive.say(w));
        } else {
            same(call, "hush()", net::hush, naive::hush);
        }
    }

    private void ask(int call, int kind) {
        int a = sense();
        int b = sense();
        int m = measure();
        String pair = "(" + a + ", " + b + ")";
        if (kind < 1) {
            same(call, "senses()", net::senses, naive::senses);
        } else if (kind < 3) {
            same(call, "parents(" + a + ")", () -> net.parents(a), () -> naive.parents(a));
        } else if (kind < 5) {
            same(call, "above(" + a + ")", () -> net.above(a), () -> naive.above(a));
        } else if (kind < 7) {
            same(call, "below(" + a + ")", () -> net.below(a), () -> naive.below(a));
        } else if (kind < 9) {
            same(call, "mass(" + a + ")", () -> net.mass(a), () -> naive.mass(a));
        } else if (kind < 11) {
            same(call, "massByWalks(" + a + ")", () -> net.massByWalks(a), () -> naive.mass(a));
        } else if (kind < 13) {
            same(call, "depth(" + a + ")", () -> net.depth(a), () -> naive.depth(a));
        } else if (kind < 17) {
            same(call, "shared" + pair, () -> net.shared(a, b), () -> naive.shared(a, b));
        } else if (kind < 21) {
            same(call, "distance" + pair, () -> net.distance(a, b), () -> naive.distance(a, b));
        } else {
            same(call, "likeness" + pair + " by " + m, () -> net.likeness(a, b, m), () -> naive.likeness(a, b, m));
        }
    }

    private void choose(int call, int kind) {
        int m = measure();
        int p = next(12) == 0 ? strange() : next(6);
        if (kind < 1) {
            same(call, "choices()", net::choices, naive::choices);
        } else if (kind < 3) {
            same(call, "bestWorth(" + m + ")", () -> net.bestWorth(m), () -> naive.bestWorth(m));
        } else if (kind < 4) {
            same(call, "greatestWorth(" + m + ")", () -> net.greatestWorth(m), () -> naive.bestWorth(m));
        } else {
            same(call, "chosen(" + p + ", " + m + ")", () -> net.chosen(p, m), () -> naive.chosen(p, m));
        }
    }

    private void same(int call, String what, Due.Call got, Due.Call want) {
        Due.compare("run " + run + ", call " + call + ": " + what, Due.of(got), Due.of(want));
    }

    private int sense() {
        return next(25) == 0 ? strange() : next(breadth);
    }

    private int word() {
        return next(25) == 0 ? strange() : next(2 + run % 9);
    }

    private int measure() {
        return next(20) == 0 ? strange() : next(3);
    }

    private int strange() {
        return STRANGE[next(STRANGE.length)];
    }

    private int next(int bound) {
        state = state * 6364136223846793005L + 1442695040888963407L;
        return (int) ((state >>> 33) % bound);
    }
}
