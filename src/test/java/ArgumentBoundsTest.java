/** The arguments on this side of their bounds: each call at each node, with the first and the last key, value and set. */
final class ArgumentBoundsTest {
    public static void main(String[] args) {
        for (int node = 0; node < 5; node++) {
            eachCallOfANode(node);
            proposalsAndReads(node);
            setsOfAChange(node);
        }
        setsAtFirst();
        numbersOfMessages();
        numbersOfReads();
        Check.end();
    }

    /** A node that is the one member, and all others down. */
    private static QuorumAlmanac alone(int node) {
        QuorumAlmanac x = new QuorumAlmanac(1 << node);
        Play.crashAllBut(x, 1 << node);
        return x;
    }

    private static QuorumAlmanac leading(int node) {
        QuorumAlmanac x = alone(node);
        Play.tickOne(x, node, 10 + node);
        x.sync(node);
        return x;
    }

    // Promises 2 to 17
    private static void eachCallOfANode(int node) {
        QuorumAlmanac x = alone(node);
        String of = " of node " + node;
        Check.due("tick" + of, 1, () -> x.tick(node));
        Check.noElement("vote" + of, () -> x.vote(node));
        Play.tickOne(x, node, 9 + node);
        Check.due("role" + of, 'l', () -> x.role(node));
        Check.due("term" + of, 1, () -> x.term(node));
        Check.due("vote" + of, node, () -> x.vote(node));
        Check.due("clock" + of, 10 + node, () -> x.clock(node));
        Check.due("last" + of, 1, () -> x.last(node));
        Check.due("sync" + of, 1, () -> x.sync(node));
        Check.due("synced" + of, 1, () -> x.synced(node));
        Check.due("committed" + of, 1, () -> x.committed(node));
        Check.due("snapshot" + of, 0, () -> x.snapshot(node));
        Check.due("members" + of, 1 << node, () -> x.members(node));
        Check.due("entryTerm" + of, 1, () -> x.entryTerm(node, 1));
        Check.due("entryKind" + of, 'o', () -> x.entryKind(node, 1));
        Check.due("compact" + of, 1, () -> x.compact(node));
        Check.due("snapshot" + of, 1, () -> x.snapshot(node));
        Check.due("crash" + of, 0, () -> x.crash(node));
        Check.due("role" + of, 'd', () -> x.role(node));
        Check.due("start" + of, 10 + node, () -> x.start(node));
    }

    // Promises 25, 26 and 28 to 37
    private static void proposalsAndReads(int node) {
        QuorumAlmanac x = leading(node);
        Check.due("the first key, the least value", 2, () -> x.write(node, 0, -999));
        Check.due("the last key, the greatest value", 3, () -> x.write(node, 19, 999));
        Check.due("a split at the first key that may be", 4, () -> x.reshape(node, 1, true));
        Check.due("at the last one", 5, () -> x.reshape(node, 19, true));
        Check.due("synced", 4, () -> x.sync(node));
        Check.due("hasLease", true, () -> x.hasLease(node));
        int[] keys = {0, 19};
        for (int i = 0; i < 2; i++) {
            int key = keys[i];
            int read = i;
            int value = i == 0 ? -999 : 999;
            Check.due("readByLease of key " + key, value, () -> x.readByLease(node, key));
            Check.due("askRead of key " + key, read, () -> x.askRead(node, key));
            Check.due("its value", "r " + value, () -> x.readState(read) + " " + x.readValue(read));
            Check.due("readStale of key " + key, value, () -> x.readStale(node, key));
            Check.due("valueByHistory of key " + key, value, () -> x.valueByHistory(key));
            Check.due("rangeOf key " + key, key, () -> x.rangeOf(node, key));
            Check.due("load of key " + key, 0, () -> x.load(node, key));
        }
        Check.due("a merge at the first key that may be", 6, () -> x.reshape(node, 1, false));
        Check.due("at the last one", 7, () -> x.reshape(node, 19, false));
        Check.due("and writes of 0", 8, () -> x.write(node, 19, 0));
        x.sync(node);
        Check.due("one range", "0 1 0", () -> x.rangeOf(node, 19) + " " + x.load(node, 19) + " " + x.readStale(node, 19));
    }

    // Promise 27
    private static void setsOfAChange(int node) {
        for (int set : new int[] {1, 31, 1 << node}) {
            QuorumAlmanac x = leading(node);
            Check.due("a change to " + set, 2, () -> x.change(node, set));
            Check.due("its sets", (1 << node) | set, () -> x.members(node));
        }
    }

    // Promise 1
    private static void setsAtFirst() {
        int[][] sets = {{Integer.MIN_VALUE, 1}, {-1, 1}, {0, 1}, {1, 1}, {2, 2}, {30, 30}, {31, 31}, {32, 31},
            {Integer.MAX_VALUE, 31}};
        for (int[] set : sets) {
            QuorumAlmanac x = new QuorumAlmanac(set[0]);
            for (int i = 0; i < 5; i++) {
                int node = i;
                Check.due("members at first by " + set[0], set[1], () -> x.members(node));
            }
        }
    }

    // Promises 19 to 24
    private static void numbersOfMessages() {
        QuorumAlmanac x = new QuorumAlmanac(31);
        Play.tickTo(x, 9);
        x.tick(0);
        for (int i = 0; i < 4; i++) {
            int message = i;
            Check.due("wish " + i, "v " + (i + 1), () -> x.kindOf(message) + " " + x.between(message));
        }
        Check.noElement("ahead of the first one", () -> x.kindOf(-1));
        Check.noElement("behind the last one", () -> x.kindOf(4));
        Check.due("a copy of the last one", 4, () -> x.copy(3));
        Check.due("delivered", 1, () -> x.deliver(3));
        Check.noElement("it waits no more", () -> x.kindOf(3));
        Check.due("its copy does", "v 4 0", () -> x.kindOf(4) + " " + x.between(4) + " " + x.earliest());
        Check.due("the first one is lost", 4, () -> x.lose(0));
        Check.due("the second one is the earliest", 1, () -> x.earliest());
        Check.due("from and to", "y 40", () -> x.kindOf(5) + " " + x.between(5));
    }

    // Promises 30 to 32
    private static void numbersOfReads() {
        QuorumAlmanac x = leading(4);
        for (int read = 0; read < 3; read++) {
            int number = read;
            Check.noElement("no such read yet", () -> x.readState(number));
            Check.due("its number", number, () -> x.askRead(4, number));
            Check.due("its state", 'r', () -> x.readState(number));
        }
        Check.noElement("ahead of the first one", () -> x.readValue(-1));
        Check.noElement("behind the last one", () -> x.readValue(3));
    }
}
