/** Promises 1 to 17: the nodes, their clocks, terms, logs and snapshots. */
final class NodesTest {
    public static void main(String[] args) {
        newObject();
        noSuchNode();
        tickGoesOn();
        tickDrift();
        tickElects();
        tickBeginsRounds();
        sync();
        syncAnswers();
        crash();
        crashForgets();
        start();
        startIsCalm();
        compact();
        compactKeepsWhatIsBehind();
        roleTermVote();
        indexes();
        members();
        entries();
        Check.end();
    }

    // Promise 1
    private static void newObject() {
        int[][] sets = {{7, 7}, {0, 1}, {1, 1}, {31, 31}, {32, 31}, {-1, 1}, {Integer.MAX_VALUE, 31},
            {Integer.MIN_VALUE, 1}, {16, 16}};
        for (int[] set : sets) {
            Check.due("members of QuorumAlmanac(" + set[0] + ")", set[1], () -> new QuorumAlmanac(set[0]).members(4));
        }
        QuorumAlmanac x = new QuorumAlmanac(5);
        for (int i = 0; i < 5; i++) {
            int node = i;
            Check.due("role at first", 'f', () -> x.role(node));
            Check.due("term at first", 0, () -> x.term(node));
            Check.noElement("vote at first", () -> x.vote(node));
            Check.due("clock at first", 0, () -> x.clock(node));
            Check.due("last at first", 0, () -> x.last(node));
            Check.due("synced at first", 0, () -> x.synced(node));
            Check.due("committed at first", 0, () -> x.committed(node));
            Check.due("snapshot at first", 0, () -> x.snapshot(node));
            Check.due("value at first", 0, () -> x.readStale(node, 19));
            Check.due("range at first", 0, () -> x.rangeOf(node, 19));
        }
        Check.due("waiting at first", 0, () -> x.waiting());
    }

    // All of promises 2 to 17
    private static void noSuchNode() {
        QuorumAlmanac x = new QuorumAlmanac(7);
        for (int node : new int[] {-1, 5, Integer.MIN_VALUE, Integer.MAX_VALUE}) {
            Check.bounds("tick", () -> x.tick(node));
            Check.bounds("sync", () -> x.sync(node));
            Check.bounds("crash", () -> x.crash(node));
            Check.bounds("start", () -> x.start(node));
            Check.bounds("compact", () -> x.compact(node));
            Check.bounds("role", () -> x.role(node));
            Check.bounds("term", () -> x.term(node));
            Check.bounds("vote", () -> x.vote(node));
            Check.bounds("clock", () -> x.clock(node));
            Check.bounds("last", () -> x.last(node));
            Check.bounds("synced", () -> x.synced(node));
            Check.bounds("committed", () -> x.committed(node));
            Check.bounds("snapshot", () -> x.snapshot(node));
            Check.bounds("members", () -> x.members(node));
            Check.bounds("entryTerm ahead of no entry", () -> x.entryTerm(node, 0));
            Check.bounds("entryKind ahead of no entry", () -> x.entryKind(node, -1));
        }
    }

    // Promise 2
    private static void tickGoesOn() {
        QuorumAlmanac x = new QuorumAlmanac(7);
        Check.due("tick", 1, () -> x.tick(4));
        Check.due("tick again", 2, () -> x.tick(4));
        Check.due("the clock of another", 0, () -> x.clock(3));
        x.crash(4);
        Check.state("tick of a node that is down", () -> x.tick(4));
        Check.due("the clock of a node that is down", 2, () -> x.clock(4));
    }

    private static void tickDrift() {
        QuorumAlmanac x = new QuorumAlmanac(7);
        x.tick(1);
        x.tick(1);
        Check.state("3 ahead of others", () -> x.tick(1));
        Check.due("the clock that would be too far ahead", 2, () -> x.clock(1));
        for (int node : new int[] {0, 2, 3}) {
            x.tick(node);
        }
        Check.state("3 ahead of the last one", () -> x.tick(1));
        x.crash(4);
        Check.due("2 ahead of all that run", 3, () -> x.tick(1));
        for (int node : new int[] {0, 2, 3}) {
            x.crash(node);
        }
        Check.due("ahead of none that runs", 4, () -> x.tick(1));
        Check.due("ahead of none that runs", 5, () -> x.tick(1));
    }

    private static void tickElects() {
        QuorumAlmanac x = new QuorumAlmanac(7);
        x.crash(4);
        Play.tickAll(x, 9);
        Check.due("9 ticks", 'f', () -> x.role(0));
        x.tick(0);
        Check.due("10 ticks of node 0", 'c', () -> x.role(0));
        Check.due("its term", 1, () -> x.term(0));
        Check.due("its vote", 0, () -> x.vote(0));
        Check.due("it asks the other members alone", 2, () -> x.waiting());
        Check.due("by rising numbers", 1, () -> x.between(0));
        Check.due("by rising numbers", 2, () -> x.between(1));
        x.tick(1);
        Check.due("10 ticks of node 1", 'f', () -> x.role(1));
        x.tick(1);
        Check.due("11 ticks of node 1", 'c', () -> x.role(1));
        Play.tickTo(x, 11);
        Check.due("11 ticks of node 2", 'f', () -> x.role(2));
        Play.tickTo(x, 19);
        Check.due("19 ticks of node 2", 'c', () -> x.role(2));
        Check.due("19 ticks of node 3, no member", 'f', () -> x.role(3));
        Check.due("9 ticks of a candidate", 1, () -> x.term(0));
        x.tick(0);
        Check.due("10 ticks of a candidate", 2, () -> x.term(0));
        Check.due("it is one still", 'c', () -> x.role(0));
        QuorumAlmanac y = new QuorumAlmanac(1);
        for (int node = 1; node < 5; node++) {
            y.crash(node);
        }
        Play.tickAll(y, 9);
        Check.due("9 ticks of the one member", 'f', () -> y.role(0));
        Check.due("10 ticks of the one member", 10, () -> y.tick(0));
        Check.due("the one member leads at once", 'l', () -> y.role(0));
        Check.due("its 'o' entry", 'o', () -> y.entryKind(0, 1));
        Check.due("its messages", 0, () -> y.waiting());
    }

    private static void tickBeginsRounds() {
        QuorumAlmanac x = Play.settled();
        x.tick(1);
        x.tick(2);
        x.tick(0);
        x.tick(0);
        Check.due("2 ticks behind a round", 0, () -> x.waiting());
        x.tick(1);
        x.tick(2);
        Check.due("3 ticks behind a round", 13, () -> x.tick(0));
        Check.due("a round", 2, () -> x.waiting());
        Check.due("of appends", 'a', () -> x.kindOf(x.earliest()));
        x.write(0, 1, 1);
        Play.loseAll(x);
        x.tick(1);
        x.tick(2);
        x.tick(0);
        x.tick(1);
        x.tick(2);
        x.tick(0);
        Check.due("2 ticks behind a round of a proposal", 0, () -> x.waiting());
        x.tick(1);
        x.tick(2);
        x.tick(0);
        Check.due("3 ticks behind a round of a proposal", 2, () -> x.waiting());
    }

    // Promise 3
    private static void sync() {
        QuorumAlmanac x = Play.elected();
        Check.due("synced ahead of a sync", 0, () -> x.synced(0));
        Check.due("sync of an entry", 1, () -> x.sync(0));
        Check.due("sync again", 0, () -> x.sync(0));
        Check.due("sync of two entries", "2 3", () -> {
            x.write(0, 1, 1);
            x.write(0, 1, 1);
            return x.sync(0) + " " + x.synced(0);
        });
        x.crash(0);
        Check.state("sync of a node that is down", () -> x.sync(0));
        QuorumAlmanac y = Play.alone();
        Check.due("a leader commits as it syncs", 1, () -> y.committed(0));
    }

    private static void syncAnswers() {
        QuorumAlmanac x = Play.elected();
        Play.loseAll(x);
        x.sync(1);
        Check.due("a follower that knows no leader, but voted", 0, () -> x.waiting());
        x.sync(0);
        Check.due("a leader", 0, () -> x.waiting());
        x.tick(0);
        x.tick(1);
        x.tick(2);
        x.tick(1);
        x.tick(2);
        x.tick(0);
        x.tick(0);
        x.deliver(x.earliest());
        Play.loseAll(x);
        Check.due("a follower that knows its leader", 1, () -> x.sync(1));
        Check.due("its answer", "k 10", () -> x.kindOf(x.earliest()) + " " + x.between(x.earliest()));
        Check.due("nothing to sync", 0, () -> x.sync(1));
        Check.due("it answers all the same", 2, () -> x.waiting());
        x.deliver(x.earliest());
        Check.due("the leader takes what was synced", 1, () -> x.committed(0));
        Check.due("and the round", true, () -> x.hasLease(0));
        QuorumAlmanac y = Play.candidate();
        y.sync(0);
        Check.due("a candidate", 2, () -> y.waiting());
    }

    // Promise 4
    private static void crash() {
        QuorumAlmanac x = Play.settled();
        x.write(0, 1, 5);
        x.write(0, 2, 5);
        x.sync(0);
        x.write(0, 3, 5);
        Check.due("crash", 1, () -> x.crash(0));
        Check.due("its role", 'd', () -> x.role(0));
        Check.due("its last entry", 3, () -> x.last(0));
        Check.due("it is down", "throws.IllegalStateException", () -> x.crash(0));
        Check.due("no entry lost", 0, () -> x.crash(1));
        Check.due("nothing in its log", 0, () -> new QuorumAlmanac(7).crash(2));
    }

    private static void crashForgets() {
        QuorumAlmanac x = Play.settled();
        x.askRead(0, 3);
        Check.due("committed ahead of the crash", 1, () -> x.committed(0));
        x.crash(0);
        Check.due("committed is forgotten", 0, () -> x.committed(0));
        Check.due("the read is lost", 'l', () -> x.readState(0));
        Check.due("the term is not", 1, () -> x.term(0));
        Check.due("the vote is not", 0, () -> x.vote(0));
        Check.due("the clock is not", 10, () -> x.clock(0));
        Check.due("the history is not", 1, () -> x.history());
        Play.loseAll(x);
        x.crash(1);
        x.start(1);
        x.sync(1);
        Check.due("who leads is forgotten", 0, () -> x.waiting());
    }

    // Promise 5
    private static void start() {
        QuorumAlmanac x = Play.settled();
        Check.state("start of a node that runs", () -> x.start(0));
        Check.due("the greatest clock of all that run", 10, () -> x.start(4));
        Check.due("it runs", 'f', () -> x.role(4));
        Check.state("start again", () -> x.start(4));
        x.crash(0);
        Check.due("its own clock", 10, () -> x.start(0));
        Check.due("a follower", 'f', () -> x.role(0));
        Check.due("in its term", 1, () -> x.term(0));
        Check.due("with its vote", 0, () -> x.vote(0));
        Check.due("with its log", 1, () -> x.last(0));
        Check.due("that knows nothing to be committed", 0, () -> x.committed(0));
        QuorumAlmanac y = Play.alone();
        y.write(0, 7, 77);
        y.sync(0);
        y.compact(0);
        y.write(0, 7, 78);
        y.sync(0);
        Check.due("committed ahead of the crash", 3, () -> y.committed(0));
        y.crash(0);
        Check.due("the greatest clock of none that run", 10, () -> y.start(0));
        Check.due("the entries of its snapshot are committed", 2, () -> y.committed(0));
        Check.due("and applied", 77, () -> y.readStale(0, 7));
        Check.due("those behind it stay in its log", 3, () -> y.last(0));
        Play.tickAll(y, 9);
        Check.due("9 ticks behind a start", 'f', () -> y.role(0));
        y.tick(0);
        Check.due("10 ticks behind a start", 'l', () -> y.role(0));
    }

    private static void startIsCalm() {
        QuorumAlmanac x = new QuorumAlmanac(3);
        for (int node = 2; node < 5; node++) {
            x.crash(node);
        }
        Play.tickTo(x, 1);
        x.crash(1);
        x.start(1);
        Play.tickTo(x, 10);
        int copy = x.copy(0);
        Check.due("a wish 9 ticks behind a start", 0, () -> x.deliver(0));
        Check.due("was not heeded", 0, () -> x.term(1));
        x.tick(1);
        Check.due("a wish 10 ticks behind a start", 1, () -> x.deliver(copy));
        Check.due("was heeded", 1, () -> x.term(1));
    }

    // Promise 6
    private static void compact() {
        QuorumAlmanac x = Play.settled();
        Check.due("compact", 1, () -> x.compact(0));
        Check.due("the snapshot", 1, () -> x.snapshot(0));
        Check.state("compact again", () -> x.compact(0));
        Check.state("nothing is applied", () -> x.compact(1));
        x.crash(2);
        Check.state("it is down", () -> x.compact(2));
        QuorumAlmanac y = Play.settled();
        y.write(0, 4, 44);
        y.reshape(0, 3, true);
        Play.deliverAll(y);
        y.sync(1);
        y.sync(0);
        Play.deliverAll(y);
        Check.due("three entries", 3, () -> y.compact(0));
        Check.due("what was applied stays so", "44 3 0",
            () -> y.readStale(0, 4) + " " + y.rangeOf(0, 4) + " " + y.load(0, 4));
        y.crash(0);
        Check.due("committed while it is down", 3, () -> y.committed(0));
        y.start(0);
        Check.due("the snapshot holds it", "44 3 0",
            () -> y.readStale(0, 4) + " " + y.rangeOf(0, 4) + " " + y.load(0, 4));
    }

    private static void compactKeepsWhatIsBehind() {
        QuorumAlmanac x = Play.settled();
        x.write(0, 4, 44);
        x.compact(0);
        Check.due("the last entry", 2, () -> x.last(0));
        Check.due("an entry behind the snapshot", 'w', () -> x.entryKind(0, 2));
        Check.noElement("an entry in the snapshot", () -> x.entryKind(0, 1));
        Check.due("the members", 7, () -> x.members(0));
        // A follower may know entries to be committed that it has not synced; its snapshot is synced.
        Play.deliverAll(x);
        x.sync(0);
        x.sync(2);
        Play.deliverAll(x);
        x.write(0, 4, 45);
        Play.deliverAll(x);
        Check.due("committed ahead of what is synced", "2 1", () -> x.committed(1) + " " + x.synced(1));
        Check.due("compact what is not synced", 2, () -> x.compact(1));
        Check.due("the snapshot is synced", 2, () -> x.synced(1));
        Check.due("one entry behind it is lost", 1, () -> x.crash(1));
    }

    // Promises 7, 8 and 9
    private static void roleTermVote() {
        QuorumAlmanac x = Play.candidate();
        Check.due("a candidate", 'c', () -> x.role(0));
        x.deliver(0);
        Check.due("the vote for another", 0, () -> x.vote(1));
        Check.due("the term of a vote", 1, () -> x.term(1));
        Check.noElement("no vote yet", () -> x.vote(2));
        Check.due("no term yet", 0, () -> x.term(2));
        x.deliver(2);
        Check.due("a leader", 'l', () -> x.role(0));
        Check.due("a follower", 'f', () -> x.role(1));
        Check.due("down", 'd', () -> x.role(4));
        x.deliver(4);
        Check.due("the term of an append", 1, () -> x.term(2));
        Check.noElement("no vote by an append", () -> x.vote(2));
        x.crash(1);
        Check.due("the vote while it is down", 0, () -> x.vote(1));
        Check.due("the term while it is down", 1, () -> x.term(1));
    }

    // Promises 10 to 14
    private static void indexes() {
        QuorumAlmanac x = Play.settled();
        x.write(0, 1, 1);
        Play.deliverAll(x);
        x.sync(0);
        Check.due("clocks", "10 9", () -> x.clock(0) + " " + x.clock(1));
        Check.due("last", "2 2 2 0", () -> x.last(0) + " " + x.last(1) + " " + x.last(2) + " " + x.last(3));
        Check.due("synced", "2 1", () -> x.synced(0) + " " + x.synced(1));
        Check.due("committed", "1 1 0", () -> x.committed(0) + " " + x.committed(1) + " " + x.committed(4));
        Check.due("snapshot", 0, () -> x.snapshot(0));
        x.compact(0);
        Check.due("snapshot", "1 0", () -> x.snapshot(0) + " " + x.snapshot(1));
        Check.due("last behind a snapshot", 2, () -> x.last(0));
        x.crash(0);
        Check.due("while it is down", "10 2 2 1 1",
            () -> x.clock(0) + " " + x.last(0) + " " + x.synced(0) + " " + x.committed(0) + " " + x.snapshot(0));
    }

    // Promise 15
    private static void members() {
        QuorumAlmanac x = Play.settled();
        Check.due("at first", "7 7", () -> x.members(0) + " " + x.members(4));
        x.change(0, 24);
        Check.due("both sets", "31 7", () -> x.members(0) + " " + x.members(1));
        x.deliver(x.earliest());
        Check.due("committed or not", 31, () -> x.members(1));
        x.crash(1);
        Check.due("an entry that is cut", 7, () -> x.members(1));
        QuorumAlmanac y = Play.alone();
        y.change(0, 1);
        Check.due("the same set", 1, () -> y.members(0));
        y.sync(0);
        y.sync(0);
        y.change(0, 3);
        Check.due("two sets", 3, () -> y.members(0));
        y.sync(0);
        y.compact(0);
        Check.due("of the snapshot", 3, () -> y.members(0));
    }

    // Promises 16 and 17
    private static void entries() {
        QuorumAlmanac x = Play.settled();
        x.write(0, 1, 1);
        x.reshape(0, 2, true);
        x.reshape(0, 2, false);
        x.change(0, 3);
        StringBuilder kinds = new StringBuilder();
        StringBuilder terms = new StringBuilder();
        for (int i = 1; i <= 5; i++) {
            kinds.append(x.entryKind(0, i));
            terms.append(x.entryTerm(0, i));
        }
        Check.due("kinds", "owsmj", () -> kinds);
        Check.due("terms", "11111", () -> terms);
        for (int index : new int[] {0, -1, 6, 81, 82, 100, Integer.MIN_VALUE, Integer.MAX_VALUE}) {
            Check.noElement("entryTerm of no entry", () -> x.entryTerm(0, index));
            Check.noElement("entryKind of no entry", () -> x.entryKind(0, index));
        }
        Check.noElement("an entry that another has", () -> x.entryKind(1, 2));
        Play.deliverAll(x);
        x.sync(0);
        x.sync(1);
        x.sync(2);
        Play.deliverAll(x);
        Check.due("the new set is appended", 'n', () -> x.entryKind(0, 6));
        Check.due("the new set", 3, () -> x.members(0));
        x.compact(0);
        Check.noElement("an entry in place of which is a snapshot", () -> x.entryTerm(0, 5));
        Check.due("the one behind", 1, () -> x.entryTerm(0, 6));
    }
}
