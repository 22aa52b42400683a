import java.util.ArrayList;
import java.util.List;

/** Moves an object on to where a test begins. Node 0 leads, and 3 and 4 are down, unless a test says otherwise. */
final class Play {
    private Play() {
    }

    /** Lets all nodes that run tick so often, together. */
    static void tickAll(QuorumAlmanac x, int times) {
        boolean[] runs = new boolean[5];
        for (int node = 0; node < 5; node++) {
            runs[node] = x.role(node) != 'd';
        }
        for (int i = 0; i < times; i++) {
            for (int node = 0; node < 5; node++) {
                if (runs[node]) {
                    x.tick(node);
                }
            }
        }
    }

    /** Lets all nodes that run tick until they have this clock, the slower ones first. */
    static void tickTo(QuorumAlmanac x, int clock) {
        int[] clocks = new int[5];
        for (int node = 0; node < 5; node++) {
            clocks[node] = x.role(node) == 'd' ? clock : x.clock(node);
        }
        for (int now = 0; now < clock; now++) {
            for (int node = 0; node < 5; node++) {
                if (clocks[node] == now) {
                    clocks[node] = x.tick(node);
                }
            }
        }
    }

    /** Lets one node tick so often; the others must not hold it back. */
    static void tickOne(QuorumAlmanac x, int node, int times) {
        for (int i = 0; i < times; i++) {
            x.tick(node);
        }
    }

    /** Crashes all nodes but those of the set that run still. */
    static void crashAllBut(QuorumAlmanac x, int set) {
        for (int node = 0; node < 5; node++) {
            if ((set >> node & 1) == 0 && x.role(node) != 'd') {
                x.crash(node);
            }
        }
    }

    /** Delivers the earliest message until none waits. */
    static void deliverAll(QuorumAlmanac x) {
        for (int i = 0; i < 400 && x.waiting() > 0; i++) {
            x.deliver(x.earliest());
        }
    }

    static void loseAll(QuorumAlmanac x) {
        while (x.waiting() > 0) {
            x.lose(x.earliest());
        }
    }

    /** The numbers of the messages that wait. */
    static List<Integer> waiting(QuorumAlmanac x) {
        List<Integer> numbers = new ArrayList<>();
        int left = x.waiting();
        int first = left > 0 ? x.earliest() : 0;
        for (int message = first; left > 0 && message < first + 500; message++) {
            int number = message;
            if (!Check.told(() -> x.kindOf(number)).startsWith("throws")) {
                numbers.add(number);
                left--;
            }
        }
        return numbers;
    }

    /** Loses all messages but one. */
    static void loseAllBut(QuorumAlmanac x, int kept) {
        for (int number : waiting(x)) {
            if (number != kept) {
                x.lose(number);
            }
        }
    }

    /** The latest message of this kind between these two, or -1. */
    static int lastOf(QuorumAlmanac x, char kind, int between) {
        List<Integer> numbers = waiting(x);
        for (int i = numbers.size() - 1; i >= 0; i--) {
            int number = numbers.get(i);
            if (x.kindOf(number) == kind && x.between(number) == between) {
                return number;
            }
        }
        return -1;
    }

    /** The voter votes for the node that stands, which leads by this. */
    static void voteFor(QuorumAlmanac x, int node, int voter) {
        x.deliver(lastOf(x, 'v', 10 * node + voter));
        x.deliver(lastOf(x, 'y', 10 * voter + node));
        Check.due("by a vote more", 'l', () -> x.role(node));
    }

    static void syncAll(QuorumAlmanac x) {
        for (int node = 0; node < 5; node++) {
            if (x.role(node) != 'd') {
                x.sync(node);
            }
        }
    }

    /** Of the members 0, 1 and 2, node 0 is a candidate at the clock 10; the wishes 0 and 1 wait. */
    static QuorumAlmanac candidate() {
        QuorumAlmanac x = new QuorumAlmanac(7);
        x.crash(3);
        x.crash(4);
        tickAll(x, 9);
        x.tick(0);
        return x;
    }

    /** Node 0 leads term 1 by the vote of node 1; the appends 3 and 4 of its first round wait, the wish 1 is lost. */
    static QuorumAlmanac elected() {
        QuorumAlmanac x = candidate();
        x.deliver(0);
        x.deliver(2);
        x.lose(1);
        return x;
    }

    /** The 'o' entry of node 0 is in all three logs, synced, and known to be committed by the leader alone. */
    static QuorumAlmanac settled() {
        QuorumAlmanac x = elected();
        x.sync(0);
        deliverAll(x);
        x.sync(1);
        x.sync(2);
        deliverAll(x);
        return x;
    }

    /** Of five, node 0 leads term 1; the 'o' is synced by all; nodes 1 to 4 have the clock 9. */
    static QuorumAlmanac fiveSettled() {
        QuorumAlmanac x = new QuorumAlmanac(31);
        tickTo(x, 9);
        x.tick(0);
        deliverAll(x);
        syncAll(x);
        deliverAll(x);
        return x;
    }

    /** Node 0 alone is a member, leads, and its 'o' entry is committed. */
    static QuorumAlmanac alone() {
        QuorumAlmanac x = new QuorumAlmanac(1);
        for (int node = 1; node < 5; node++) {
            x.crash(node);
        }
        tickAll(x, 10);
        x.sync(0);
        return x;
    }

    /** The one member of alone() has a log of so many entries, all written, none synced behind the first. */
    static QuorumAlmanac logOf(int entries) {
        QuorumAlmanac x = alone();
        for (int index = 2; index <= entries; index++) {
            x.write(0, 1, index);
        }
        return x;
    }

    /** Node 0 has 12 reads that wait; their appends are lost. */
    static QuorumAlmanac twelveReads() {
        QuorumAlmanac x = settled();
        for (int read = 0; read < 12; read++) {
            x.askRead(0, 1);
        }
        loseAll(x);
        return x;
    }

    /**
     * Node 0 has written 66 to key 6 at the index 2, which node 1 has synced too, and taken a snapshot of this. Node 2
     * never got an entry; the snapshot to it waits alone.
     */
    static QuorumAlmanac behindASnapshot() {
        QuorumAlmanac x = elected();
        x.sync(0);
        x.deliver(3);
        x.lose(4);
        x.sync(1);
        x.deliver(x.earliest());
        x.deliver(x.earliest());
        x.write(0, 6, 66);
        x.deliver(x.earliest());
        x.sync(0);
        x.sync(1);
        loseAll(x);
        x.sync(1);
        x.deliver(x.earliest());
        x.compact(0);
        x.write(0, 6, 67);
        x.lose(x.earliest());
        return x;
    }

    /** Node 0 leads, and all that it has is synced by all and known to be committed by all that run. */
    static void spread(QuorumAlmanac x) {
        x.sync(0);
        deliverAll(x);
        for (int i = 0; i < 3; i++) {
            x.tick(0);
            x.tick(1);
            x.tick(2);
        }
        deliverAll(x);
        syncAll(x);
        deliverAll(x);
        for (int i = 0; i < 3; i++) {
            x.tick(0);
            x.tick(1);
            x.tick(2);
        }
        deliverAll(x);
    }

    /**
     * A snapshot takes the place of a whole log, so that one which comes late takes away what a node has synced and
     * told its leader: entries 4 and 5 are committed by it, and are in no log but that of the leader.
     */
    static QuorumAlmanac twoEntriesAreAlone() {
        return twoEntriesAreAlone(true);
    }

    /** The entries 4 and 5 are writes to key 1, or merges that do nothing. */
    static QuorumAlmanac twoEntriesAreAlone(boolean areWrites) {
        QuorumAlmanac x = settled();
        x.write(0, 1, 12);
        x.write(0, 1, 13);
        int ofTwo = lastOf(x, 'a', 2);
        for (int value = 14; value <= 15; value++) {
            if (areWrites) {
                x.write(0, 1, value);
            } else {
                x.reshape(0, 1, false);
            }
        }
        int ofFour = lastOf(x, 'a', 1);
        x.sync(0);
        x.deliver(ofTwo);
        x.sync(2);
        x.deliver(lastOf(x, 'k', 20));
        Check.due("3 are committed", "3 3", () -> x.committed(0) + " " + x.last(2));
        x.compact(0);
        x.askRead(0, 1);
        x.deliver(ofFour);
        x.sync(1);
        int answer = lastOf(x, 'k', 10);
        Check.due("5 are synced", 5, () -> x.synced(1));
        x.deliver(lastOf(x, 's', 1));
        Check.due("4 and 5 are gone", "3 3", () -> x.last(1) + " " + x.synced(1));
        x.deliver(answer);
        Check.due("and committed", "5 5", () -> x.committed(0) + " " + x.history());
        loseAll(x);
        return x;
    }

    /** And the leader crashes. */
    static QuorumAlmanac twoEntriesAreGone() {
        QuorumAlmanac x = twoEntriesAreAlone();
        x.crash(0);
        return x;
    }

    /** What all queries answer, as one text: nothing is changed if it stays the same. */
    static String told(QuorumAlmanac x) {
        StringBuilder text = new StringBuilder();
        for (int i = 0; i < 5; i++) {
            int node = i;
            text.append(x.role(node)).append(x.term(node)).append(' ').append(x.clock(node)).append(' ');
            text.append(Check.told(() -> x.vote(node))).append(' ').append(x.last(node)).append(' ');
            text.append(x.synced(node)).append(' ').append(x.committed(node)).append(' ').append(x.snapshot(node));
            text.append(' ').append(x.members(node)).append(' ').append(x.hasLease(node)).append('\n');
        }
        text.append(x.waiting()).append(' ').append(Check.told(() -> x.earliest())).append(' ');
        text.append(x.history()).append(' ').append(x.delivered()).append(' ').append(x.isSound());
        return text.toString();
    }

    /** The same, and entries, messages, reads, stores and what is counted. */
    static String toldAll(QuorumAlmanac x) {
        StringBuilder text = new StringBuilder(told(x));
        for (int i = 0; i < 5; i++) {
            int node = i;
            text.append('\n');
            for (int index = x.snapshot(node) + 1; index <= x.last(node); index++) {
                text.append(x.entryKind(node, index)).append(x.entryTerm(node, index)).append(' ');
            }
            for (int key : new int[] {0, 1, 19}) {
                text.append(Check.told(() -> x.readStale(node, key))).append(' ');
                text.append(Check.told(() -> x.rangeOf(node, key))).append(' ');
                text.append(Check.told(() -> x.load(node, key))).append(' ');
            }
        }
        text.append('\n');
        for (int message : waiting(x)) {
            text.append(message).append(x.kindOf(message)).append(x.between(message)).append(' ');
        }
        text.append('\n').append(toldReads(x)).append(x.valueByHistory(0)).append(' ').append(x.valueByHistory(1));
        text.append(' ').append(Check.told(() -> x.refusedShare())).append(' ').append(x.meanLast());
        return text.toString();
    }

    private static String toldReads(QuorumAlmanac x) {
        StringBuilder text = new StringBuilder();
        String state = Check.told(() -> x.readState(0));
        for (int i = 1; i < 30 && !state.startsWith("throws"); i++) {
            int before = i - 1;
            int read = i;
            text.append(state).append(Check.told(() -> x.readValue(before))).append(' ');
            state = Check.told(() -> x.readState(read));
        }
        return text.toString();
    }
}
