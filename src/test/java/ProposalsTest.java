/** Promises 25 to 27: writes, splits and merges, and the change of the members in two steps. */
final class ProposalsTest {
    public static void main(String[] args) {
        write();
        reshape();
        proposalsInOrderOfExceptions();
        proposalsBeginARound();
        logsGoToEighty();
        fullLogOfANewLeader();
        change();
        changeIsUnsupported();
        changeNearTheEnd();
        twoMajorities();
        leaderLeaves();
        electionUnderTwoSets();
        newSetByTheNextLeader();
        newSetOfASnapshot();
        newSetAsMoreIsCommitted();
        Check.end();
    }

    // Promise 25
    private static void write() {
        QuorumAlmanac x = Play.settled();
        Check.due("write", 2, () -> x.write(0, 0, -999));
        Check.due("write", 3, () -> x.write(0, 19, 999));
        Check.due("its kind", 'w', () -> x.entryKind(0, 3));
        Check.due("not applied ahead of being committed", 0, () -> x.readStale(0, 19));
        Play.spread(x);
        Check.due("values", "-999 999", () -> x.readStale(1, 0) + " " + x.readStale(2, 19));
        for (int key : new int[] {-1, 20, Integer.MIN_VALUE, Integer.MAX_VALUE}) {
            Check.argument("write of no key", () -> x.write(0, key, 0));
        }
        for (int value : new int[] {-1000, 1000, Integer.MIN_VALUE, Integer.MAX_VALUE}) {
            Check.argument("write of no value", () -> x.write(0, 0, value));
        }
        Check.due("nothing was appended", 3, () -> x.last(0));
    }

    // Promise 26
    private static void reshape() {
        QuorumAlmanac x = Play.settled();
        Check.due("a split", 2, () -> x.reshape(0, 1, true));
        Check.due("a split", 3, () -> x.reshape(0, 19, true));
        Check.due("a merge", 4, () -> x.reshape(0, 1, false));
        Check.due("kinds", "ssm", () -> "" + x.entryKind(0, 2) + x.entryKind(0, 3) + x.entryKind(0, 4));
        for (int key : new int[] {0, -1, 20, Integer.MIN_VALUE, Integer.MAX_VALUE}) {
            Check.argument("a split of no key", () -> x.reshape(0, key, true));
            Check.argument("a merge of no key", () -> x.reshape(0, key, false));
        }
        Check.due("nothing was appended", 4, () -> x.last(0));
    }

    // Promises 25 to 27
    private static void proposalsInOrderOfExceptions() {
        QuorumAlmanac x = Play.settled();
        String before = Play.told(x);
        for (int node : new int[] {-1, 5, Integer.MIN_VALUE, Integer.MAX_VALUE}) {
            Check.bounds("write", () -> x.write(node, 20, 1000));
            Check.bounds("reshape", () -> x.reshape(node, 0, true));
            Check.bounds("change", () -> x.change(node, 0));
        }
        for (int node : new int[] {1, 4}) {
            Check.argument("write of no leader, no key", () -> x.write(node, 20, 0));
            Check.argument("write of no leader, no value", () -> x.write(node, 0, 1000));
            Check.state("write of no leader", () -> x.write(node, 0, 0));
            Check.argument("reshape of no leader, no key", () -> x.reshape(node, 0, false));
            Check.state("reshape of no leader", () -> x.reshape(node, 1, false));
            Check.argument("change of no leader, no set", () -> x.change(node, 32));
            Check.state("change of no leader", () -> x.change(node, 7));
        }
        for (int set : new int[] {0, -1, 32, Integer.MIN_VALUE, Integer.MAX_VALUE}) {
            Check.argument("change to no set", () -> x.change(0, set));
        }
        Check.due("nothing is changed", before, () -> Play.told(x));
        QuorumAlmanac y = Play.candidate();
        Check.state("write of a candidate", () -> y.write(0, 0, 0));
    }

    private static void proposalsBeginARound() {
        QuorumAlmanac x = Play.settled();
        x.write(0, 0, 0);
        Check.due("a write", 2, () -> x.waiting());
        x.reshape(0, 1, true);
        Check.due("a split", 4, () -> x.waiting());
        x.change(0, 8 + 7);
        Check.due("a change: to the members of both sets", 7, () -> x.waiting());
        Check.due("by rising numbers", "1 2 3", () -> x.between(x.earliest() + 4) + " " + x.between(x.earliest() + 5)
            + " " + x.between(x.earliest() + 6));
    }

    private static void logsGoToEighty() {
        QuorumAlmanac x = Play.alone();
        for (int index = 2; index < 80; index++) {
            x.write(0, index % 20, index);
        }
        Check.due("79 entries", 79, () -> x.last(0));
        Check.due("a write to the index 80", 80, () -> x.write(0, 1, 1));
        Check.state("a write behind it", () -> x.write(0, 1, 1));
        Check.state("a split behind it", () -> x.reshape(0, 1, true));
        Check.argument("no key", () -> x.write(0, 20, 1));
        Check.argument("no key", () -> x.reshape(0, 20, true));
        Check.due("80 entries", "80 w", () -> x.last(0) + " " + x.entryKind(0, 80));
        Check.due("all are synced", 79, () -> x.sync(0));
        Check.due("and committed", 80, () -> x.committed(0));
        Check.due("and go into a snapshot", 80, () -> x.compact(0));
        Check.state("the log goes to 80 all the same", () -> x.write(0, 1, 1));
        Check.due("the mean", 16.0, () -> x.meanLast());
    }

    private static void fullLogOfANewLeader() {
        QuorumAlmanac x = Play.alone();
        for (int index = 2; index <= 80; index++) {
            x.reshape(0, 1, index % 2 == 0);
        }
        x.sync(0);
        x.crash(0);
        x.start(0);
        Play.tickTo(x, 20);
        Check.due("it leads anew", "l 2", () -> x.role(0) + " " + x.term(0));
        Check.due("without an 'o'", 80, () -> x.last(0));
        Check.due("and commits nothing", 0, () -> x.sync(0) + x.committed(0));
        Check.state("nor reads", () -> x.askRead(0, 1));
        Check.due("nor has a lease", false, () -> x.hasLease(0));
    }

    // Promise 27
    private static void change() {
        QuorumAlmanac x = Play.settled();
        x.start(3);
        Check.due("change", 2, () -> x.change(0, 13));
        Check.due("two sets", "j 15", () -> x.entryKind(0, 2) + " " + x.members(0));
        x.sync(0);
        Play.deliverAll(x);
        x.sync(2);
        Play.deliverAll(x);
        Check.due("a majority of both", "2 n", () -> x.committed(0) + " " + x.entryKind(0, 3));
        Check.due("the new set, not committed yet", "3 13", () -> x.last(0) + " " + x.members(0));
        Check.due("it begins no round", 0, () -> x.waiting());
        Check.unsupported("a change ahead of that", () -> x.change(0, 7));
        x.sync(0);
        Check.due("the leader alone is no majority", 2, () -> x.committed(0));
        x.write(0, 1, 1);
        Play.deliverAll(x);
        x.sync(2);
        Play.deliverAll(x);
        Check.due("two of the new set", 3, () -> x.committed(0));
        Check.due("a change behind that", 5, () -> x.change(0, 7));
    }

    private static void changeIsUnsupported() {
        QuorumAlmanac x = Play.elected();
        Check.unsupported("no entry of its term is committed", () -> x.change(0, 3));
        Check.argument("no set comes first", () -> x.change(0, 32));
        QuorumAlmanac y = Play.settled();
        y.change(0, 3);
        Check.unsupported("there are two sets", () -> y.change(0, 7));
        String before = Play.told(y);
        Check.unsupported("the same set", () -> y.change(0, 3));
        Check.due("nothing is changed", before, () -> Play.told(y));
        QuorumAlmanac z = Play.settled();
        Check.due("the set that is", 2, () -> z.change(0, 7));
        QuorumAlmanac w = Play.alone();
        w.write(0, 1, 1);
        w.sync(0);
        w.crash(0);
        w.start(0);
        Play.tickTo(w, 20);
        Check.unsupported("entries of an earlier term are no help", () -> w.change(0, 3));
        w.sync(0);
        Check.due("one of its own is", 4, () -> w.change(0, 3));
    }

    private static void changeNearTheEnd() {
        QuorumAlmanac x = Play.alone();
        for (int index = 2; index <= 78; index++) {
            x.write(0, 1, index);
        }
        x.sync(0);
        Check.due("a change to the index 79", 79, () -> x.change(0, 1));
        Check.due("a write to the index 80", 80, () -> x.write(0, 1, 5));
        x.sync(0);
        Check.due("further by an 'n' entry", "81 n", () -> x.last(0) + " " + x.entryKind(0, 81));
        Check.state("no write", () -> x.write(0, 1, 5));
        Check.state("no change", () -> x.change(0, 1));
        x.sync(0);
        Check.due("it is committed", "81 81", () -> x.committed(0) + " " + x.history());
        x.compact(0);
        x.crash(0);
        x.start(0);
        Play.tickTo(x, 20);
        Check.due("a leader behind it", "l 81", () -> x.role(0) + " " + x.last(0));
        QuorumAlmanac y = Play.alone();
        for (int index = 2; index <= 79; index++) {
            y.write(0, 1, index);
        }
        y.sync(0);
        Check.state("a change behind the index 79", () -> y.change(0, 1));
        y.write(0, 1, 80);
        Check.state("a change behind the index 80", () -> y.change(0, 1));
        QuorumAlmanac z = Play.alone();
        for (int index = 2; index <= 79; index++) {
            z.write(0, 1, index);
        }
        Check.state("its state comes ahead of what is not supported", () -> z.change(0, 1));
    }

    private static void twoMajorities() {
        QuorumAlmanac x = Play.settled();
        x.change(0, 24);
        x.sync(0);
        Play.deliverAll(x);
        x.sync(1);
        x.sync(2);
        Play.deliverAll(x);
        Check.due("all of the old set, none of the new one", 1, () -> x.committed(0));
        Check.due("no round is answered by both", false, () -> x.hasLease(0));
        x.start(3);
        x.start(4);
        x.write(0, 1, 1);
        Play.deliverAll(x);
        x.sync(3);
        Play.deliverAll(x);
        Check.due("one of the two new ones", 1, () -> x.committed(0));
        Check.due("but a round is answered by all", true, () -> x.hasLease(0));
        x.sync(4);
        Play.deliverAll(x);
        Check.due("both of the new set", "2 4 n", () -> x.committed(0) + " " + x.last(0) + " " + x.entryKind(0, 4));
        Check.due("the new set alone", 24, () -> x.members(0));
    }

    private static void leaderLeaves() {
        QuorumAlmanac x = Play.settled();
        x.change(0, 6);
        x.sync(0);
        Play.deliverAll(x);
        x.sync(1);
        x.sync(2);
        Play.deliverAll(x);
        Check.due("the new set without the leader", "n 6 l", () -> x.entryKind(0, 3) + " " + x.members(0) + " "
            + x.role(0));
        x.write(0, 1, 1);
        Check.due("it leads on", 2, () -> x.waiting());
        int read = x.askRead(0, 1);
        Play.deliverAll(x);
        x.sync(1);
        x.sync(0);
        Play.deliverAll(x);
        Check.due("the leader itself does not count", 2, () -> x.committed(0));
        x.sync(2);
        Play.deliverAll(x);
        Check.due("all of the new set", "4 f", () -> x.committed(0) + " " + x.role(0));
        Check.due("its term stays", "1 0", () -> x.term(0) + " " + x.vote(0));
        Check.due("the read was ready ahead of that", 'r', () -> x.readState(read));
        x.sync(0);
        Check.due("it knows no leader", 0, () -> x.waiting());
        x.tick(1);
        x.tick(2);
        Play.tickTo(x, 19);
        Check.due("9 or 10 ticks later", "f f", () -> x.role(1) + " " + x.role(2));
        Play.tickTo(x, 20);
        Check.due("it is no candidate ever", 'f', () -> x.role(0));
        Check.due("a member is", 'c', () -> x.role(1));
    }

    private static void electionUnderTwoSets() {
        QuorumAlmanac x = Play.settled();
        x.change(0, 25);
        x.sync(0);
        Play.loseAll(x);
        x.crash(0);
        x.start(0);
        Play.tickTo(x, 20);
        Check.due("node 0 stands for both sets, node 1 for the old one", "c c 6",
            () -> x.role(0) + " " + x.role(1) + " " + x.waiting());
        x.start(3);
        x.start(4);
        for (int clock = 21; clock <= 30; clock++) {
            Play.loseAll(x);
            Play.tickTo(x, clock);
        }
        Check.due("it stands again", "c 3", () -> x.role(0) + " " + x.term(0));
        x.deliver(x.earliest());
        x.deliver(x.earliest());
        x.deliver(x.earliest());
        x.deliver(x.earliest());
        int answer = x.earliest();
        Check.due("node 1 and 2 of the old set have voted", "10 20", () -> x.between(answer) + " "
            + x.between(answer + 1));
        x.deliver(answer);
        x.deliver(answer + 1);
        Check.due("which is no majority of the new one", 'c', () -> x.role(0));
        x.deliver(answer + 2);
        Check.due("but two of three are", 'l', () -> x.role(0));
    }

    private static void newSetByTheNextLeader() {
        QuorumAlmanac x = Play.alone();
        x.change(0, 1);
        x.write(0, 2, 2);
        x.sync(0);
        Check.due("the new set is there, not synced", "4 3", () -> x.last(0) + " " + x.synced(0));
        x.crash(0);
        x.start(0);
        Play.tickTo(x, 20);
        Check.due("lost by the crash", "4 o", () -> x.last(0) + " " + x.entryKind(0, 4));
        Check.unsupported("the 'j' is the latest again", () -> x.change(0, 1));
        x.sync(0);
        Check.due("and appended by the leader of the next term", "5 n 2",
            () -> x.last(0) + " " + x.entryKind(0, 5) + " " + x.entryTerm(0, 5));
    }

    private static void newSetOfASnapshot() {
        QuorumAlmanac x = Play.alone();
        x.change(0, 1);
        x.sync(0);
        x.compact(0);
        Check.due("the snapshot is of the 'j', the 'n' behind it", "2 3", () -> x.snapshot(0) + " " + x.last(0));
        x.crash(0);
        x.start(0);
        Check.due("the 'n' is lost", 2, () -> x.last(0));
        Play.tickTo(x, 20);
        Check.unsupported("there are two sets in the snapshot", () -> x.change(0, 1));
        x.sync(0);
        Check.due("the 'n' of a 'j' in the snapshot", "4 n", () -> x.last(0) + " " + x.entryKind(0, 4));
        x.sync(0);
        Check.due("a change behind that", 5, () -> x.change(0, 31));
        Check.due("both sets", 31, () -> x.members(0));
    }

    private static void newSetAsMoreIsCommitted() {
        QuorumAlmanac x = Play.settled();
        x.change(0, 7);
        x.deliver(9);
        x.sync(1);
        for (int i = 0; i < 4; i++) {
            x.write(0, 1, i);
        }
        x.sync(0);
        x.deliver(12);
        Check.due("the 'j' is committed by node 1", "2 7 n",
            () -> x.committed(0) + " " + x.last(0) + " " + x.entryKind(0, 7));
        x.askRead(0, 1);
        x.deliver(22);
        Check.due("node 2 knows of it, but not of the 'n'", "2 5", () -> x.committed(2) + " " + x.last(2));
        Play.loseAll(x);
        x.crash(0);
        Play.tickTo(x, 19);
        x.tick(2);
        x.tick(2);
        Check.due("node 2 stands", "c 21", () -> x.role(2) + " " + x.between(x.earliest() + 1));
        x.deliver(x.earliest() + 1);
        x.deliver(x.earliest() + 2);
        Check.due("node 2 leads", "l 6", () -> x.role(2) + " " + x.last(2));
        x.sync(2);
        Check.due("nothing more is committed: no 'n'", "2 6", () -> x.committed(2) + " " + x.last(2));
        Check.unsupported("there are two sets", () -> x.change(2, 7));
        x.lose(x.earliest());
        Play.deliverAll(x);
        x.write(2, 1, 1);
        Play.deliverAll(x);
        x.sync(1);
        Play.deliverAll(x);
        Check.due("more is committed", "6 8 n", () -> x.committed(2) + " " + x.last(2) + " " + x.entryKind(2, 8));
    }
}
