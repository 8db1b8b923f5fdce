import java.lang.management.ManagementFactory;

/** The dearest runs of calls end soon, and no call after the constructor makes an object. */
public final class RoomTest {
    private static final long SLACK = 2000;

    public static void main(String[] args) {
        com.sun.management.ThreadMXBean beans =
                (com.sun.management.ThreadMXBean) ManagementFactory.getThreadMXBean();
        long thread = Thread.currentThread().getId();
        long sum = run(new SenseNet());
        SenseNet net = new SenseNet();
        long before = beans.getThreadAllocatedBytes(thread);
        long again = run(net);
        long made = beans.getThreadAllocatedBytes(thread) - before;
        Due.compare("the same run's answers", String.valueOf(again), String.valueOf(sum));
        Due.compare("at most " + SLACK + " bytes made: " + made, String.valueOf(made <= SLACK), "true");
        Due.end();
    }

    private static long run(SenseNet net) {
        long sum = 0;
        for (int sense = 0; sense < 30; sense++) {
            sum += net.addSense() + net.setCount(sense, 1000 - sense);
            for (int parent = Math.max(0, sense - 4); parent < sense; parent++) {
                sum += net.link(sense, parent);
            }
        }
        for (int word = 0; word < 6; word++) {
            sum += net.addWord();
            for (int rank = 0; rank < 5; rank++) {
                sum += net.give(word, 29 - word * 5 - rank);
            }
            sum += net.say(word);
        }
        for (int call = 0; call < 280; call++) {
            int measure = call % 3;
            sum += call % 4 == 0 ? net.bestWorth(measure)
                    : call % 4 == 1 ? net.greatestWorth(measure)
                    : call % 4 == 2 ? net.chosen(call % 6, measure)
                    : net.massByWalks(call % 30);
        }
        return sum;
    }
}
