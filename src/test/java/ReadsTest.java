/** Promises 28 to 35: leases, reads by lease and by round, and what followers serve. */
final class ReadsTest {
    public static void main(String[] args) {
        exceptionsInOrder();
        leaseAtFirst();
        leaseRunsOut();
        leaseOfTheLatestRound();
        leaseOfOneMember();
        readByLease();
        askRead();
        askReadOfALaterRound();
        askReadByARefusal();
        askReadWithTheValueThen();
        askReadOfOneMember();
        askReadAtMostTwelve();
        readsAreLost();
        rowsOfANewLeader();
        noSuchRead();
        stale();
        ranges();
        loads();
        Check.end();
    }

    // All of promises 28 to 35
    private static void exceptionsInOrder() {
        QuorumAlmanac x = Play.elected();
        String before = Play.told(x);
        for (int node : new int[] {-1, 5, Integer.MIN_VALUE, Integer.MAX_VALUE}) {
            Check.bounds("hasLease", () -> x.hasLease(node));
            Check.bounds("readByLease", () -> x.readByLease(node, 20));
            Check.bounds("askRead", () -> x.askRead(node, 20));
            Check.bounds("readStale", () -> x.readStale(node, 20));
            Check.bounds("rangeOf", () -> x.rangeOf(node, 20));
            Check.bounds("load", () -> x.load(node, 20));
        }
        for (int key : new int[] {-1, 20, Integer.MIN_VALUE, Integer.MAX_VALUE}) {
            Check.argument("readByLease without a lease", () -> x.readByLease(0, key));
            Check.argument("askRead of a follower", () -> x.askRead(1, key));
            Check.argument("readStale of a node that is down", () -> x.readStale(4, key));
            Check.argument("rangeOf of a node that is down", () -> x.rangeOf(4, key));
            Check.argument("load of a node that is down", () -> x.load(4, key));
        }
        Check.state("readByLease without a lease", () -> x.readByLease(0, 0));
        Check.state("readByLease of a node that is down", () -> x.readByLease(4, 0));
        Check.state("askRead without an entry of its term", () -> x.askRead(0, 0));
        Check.state("askRead of a follower", () -> x.askRead(1, 0));
        Check.state("askRead of a node that is down", () -> x.askRead(4, 0));
        Check.state("readStale of a node that is down", () -> x.readStale(4, 0));
        Check.state("rangeOf of a node that is down", () -> x.rangeOf(4, 0));
        Check.state("load of a node that is down", () -> x.load(4, 0));
        Check.due("nothing is changed", before, () -> Play.told(x));
    }

    // Promise 28
    private static void leaseAtFirst() {
        QuorumAlmanac x = Play.elected();
        Check.due("no entry of its term is committed", false, () -> x.hasLease(0));
        x.deliver(3);
        x.deliver(5);
        Check.due("though a round was answered", false, () -> x.hasLease(0));
        x.sync(0);
        x.sync(1);
        x.deliver(6);
        Check.due("both", true, () -> x.hasLease(0));
        Check.due("of a follower", false, () -> x.hasLease(1));
        Check.due("of a node that is down", false, () -> x.hasLease(4));
        x.crash(0);
        Check.due("of a leader that was", false, () -> x.hasLease(0));
    }

    private static void leaseRunsOut() {
        QuorumAlmanac x = Play.settled();
        Play.tickTo(x, 15);
        Check.due("5 ticks behind the round", true, () -> x.hasLease(0));
        Check.due("a read", 0, () -> x.readByLease(0, 3));
        x.tick(0);
        Check.due("6 ticks behind the round", false, () -> x.hasLease(0));
        Check.state("a read", () -> x.readByLease(0, 3));
        Check.due("two rounds were begun", 4, () -> x.waiting());
        x.deliver(x.earliest());
        int answer = x.earliest() + 3;
        x.deliver(answer);
        Check.due("the round of the clock 13 was answered", true, () -> x.hasLease(0));
        Play.tickTo(x, 18);
        Check.due("5 ticks behind it", true, () -> x.hasLease(0));
        Play.tickTo(x, 19);
        Check.due("6 ticks behind it", false, () -> x.hasLease(0));
    }

    private static void leaseOfTheLatestRound() {
        QuorumAlmanac x = new QuorumAlmanac(31);
        Play.tickTo(x, 9);
        x.tick(0);
        Play.deliverAll(x);
        Play.syncAll(x);
        Play.deliverAll(x);
        Check.due("committed by five", 1, () -> x.committed(0));
        Play.tickTo(x, 13);
        Check.due("the second round", 4, () -> x.waiting());
        int second = x.earliest();
        x.deliver(second);
        x.deliver(second + 4);
        Play.tickTo(x, 16);
        int third = x.earliest() + 4;
        Check.due("the third round", 1, () -> x.between(third));
        x.deliver(second + 1);
        Check.due("to node 2, an answer of node 2", 20, () -> x.between(third + 4));
        Check.due("the first round was begun at 10", false, () -> x.hasLease(0));
        x.deliver(third + 4);
        Check.due("the second one is answered by three", true, () -> x.hasLease(0));
        x.deliver(third);
        x.deliver(third + 5);
        Play.tickTo(x, 18);
        Check.due("it was begun at 13", true, () -> x.hasLease(0));
        x.tick(1);
        x.tick(2);
        x.tick(0);
        Check.due("a third round that two have answered is no help", false, () -> x.hasLease(0));
    }

    private static void leaseOfOneMember() {
        QuorumAlmanac x = new QuorumAlmanac(1);
        for (int node = 1; node < 5; node++) {
            x.crash(node);
        }
        Play.tickTo(x, 10);
        Check.due("its 'o' is not committed", false, () -> x.hasLease(0));
        x.sync(0);
        Check.due("it answers its own rounds", true, () -> x.hasLease(0));
        for (int clock = 11; clock < 30; clock++) {
            x.tick(0);
            Check.due("at any time", true, () -> x.hasLease(0));
        }
    }

    // Promise 29
    private static void readByLease() {
        QuorumAlmanac x = Play.settled();
        x.write(0, 5, 55);
        Check.due("ahead of the commit", 0, () -> x.readByLease(0, 5));
        x.sync(0);
        Play.deliverAll(x);
        x.sync(1);
        Play.deliverAll(x);
        Check.due("behind the commit", 55, () -> x.readByLease(0, 5));
        Check.due("another key", 0, () -> x.readByLease(0, 19));
        Check.due("it sends nothing", 0, () -> x.waiting());
        Check.due("that was right", true, () -> x.isSound());
    }

    // Promises 30 to 32
    private static void askRead() {
        QuorumAlmanac x = Play.settled();
        int from = 9;
        Check.due("the first read", 0, () -> x.askRead(0, 4));
        Check.due("a round", "2 1", () -> x.waiting() + " " + x.between(from));
        Check.due("it waits", 'w', () -> x.readState(0));
        Check.noElement("no value yet", () -> x.readValue(0));
        x.deliver(from);
        Check.due("it waits for the answer", 'w', () -> x.readState(0));
        x.deliver(from + 2);
        Check.due("a majority with the leader", 'r', () -> x.readState(0));
        Check.due("its value", 0, () -> x.readValue(0));
        Check.due("the second read", 1, () -> x.askRead(0, 0));
        Check.due("waits again", "rw", () -> "" + x.readState(0) + x.readState(1));
    }

    private static void askReadOfALaterRound() {
        QuorumAlmanac x = Play.settled();
        x.write(0, 1, 1);
        x.askRead(0, 1);
        x.write(0, 1, 2);
        Check.due("three rounds", 6, () -> x.waiting());
        int first = x.earliest();
        x.deliver(first);
        x.deliver(first + 6);
        Check.due("an answer to the round ahead", 'w', () -> x.readState(0));
        x.deliver(first + 4);
        x.deliver(first + 7);
        Check.due("an answer to a later round", 'r', () -> x.readState(0));
    }

    private static void askReadByARefusal() {
        QuorumAlmanac x = Play.settled();
        x.write(0, 1, 1);
        int append = x.earliest();
        Check.due("to node 2", 2, () -> x.between(append + 1));
        x.deliver(append + 1);
        x.sync(2);
        x.sync(0);
        x.deliver(append + 3);
        x.write(0, 1, 2);
        Check.due("to node 1", 1, () -> x.between(append + 4));
        x.deliver(append + 4);
        Play.loseAll(x);
        x.compact(1);
        x.askRead(0, 1);
        Check.due("to node 1", 1, () -> x.between(x.earliest()));
        float before = x.refusedShare();
        x.deliver(x.earliest());
        Check.due("it refuses", true, () -> x.refusedShare() > before);
        x.lose(x.earliest());
        x.deliver(x.earliest());
        Check.due("to refuse tells the round too", "r 1", () -> x.readState(0) + " " + x.readValue(0));
    }

    private static void askReadWithTheValueThen() {
        QuorumAlmanac x = Play.settled();
        x.write(0, 1, 11);
        Play.deliverAll(x);
        x.sync(0);
        x.sync(1);
        int answer = x.earliest();
        x.askRead(0, 1);
        int append = x.earliest() + 1;
        x.deliver(answer);
        Check.due("committed while it waits", "11 w", () -> x.readStale(0, 1) + " " + x.readState(0));
        x.deliver(append);
        x.deliver(x.earliest() + 1);
        Check.due("the value at the moment at which it is ready", "r 11", () -> x.readState(0) + " " + x.readValue(0));
        x.write(0, 1, 12);
        Play.deliverAll(x);
        Play.syncAll(x);
        Play.deliverAll(x);
        Check.due("which stays", "12 11", () -> x.readStale(0, 1) + " " + x.readValue(0));
        Check.due("that was right", true, () -> x.isSound());
    }

    private static void askReadOfOneMember() {
        QuorumAlmanac x = Play.alone();
        x.write(0, 3, 33);
        Check.due("a read", 0, () -> x.askRead(0, 3));
        Check.due("is ready at once", "r 0", () -> x.readState(0) + " " + x.readValue(0));
        x.sync(0);
        Check.due("a read", 1, () -> x.askRead(0, 3));
        Check.due("behind the commit", "r 33", () -> x.readState(1) + " " + x.readValue(1));
    }

    private static void askReadAtMostTwelve() {
        QuorumAlmanac x = Play.settled();
        for (int read = 0; read < 12; read++) {
            x.askRead(0, read);
        }
        String before = Play.told(x);
        Check.state("12 reads wait", () -> x.askRead(0, 0));
        Check.argument("no such key", () -> x.askRead(0, 20));
        Check.due("nothing is changed", before, () -> Play.told(x));
        int sixth = x.earliest() + 10;
        int answer = x.earliest() + 24;
        x.deliver(sixth);
        x.deliver(answer);
        Check.due("six are ready", "rw", () -> "" + x.readState(5) + x.readState(6));
        Check.due("6 reads wait", 12, () -> x.askRead(0, 0));
        x.crash(0);
        Check.due("those that waited are lost, the others are not", "rll",
            () -> "" + x.readState(5) + x.readState(6) + x.readState(12));
    }

    private static void readsAreLost() {
        QuorumAlmanac x = Play.settled();
        x.askRead(0, 1);
        Play.loseAll(x);
        Play.tickTo(x, 21);
        Play.loseAll(x);
        Play.tickTo(x, 22);
        Check.due("node 1 stands", "c 2", () -> x.role(1) + " " + x.term(1));
        Check.due("the read waits on", 'w', () -> x.readState(0));
        x.tick(1);
        x.tick(2);
        x.tick(0);
        Play.loseAll(x);
        for (int clock = 23; clock <= 31; clock++) {
            Play.tickTo(x, clock);
        }
        int wish = wishOf(x, 10);
        Check.due("a wish of node 1", 'v', () -> x.kindOf(wish));
        x.deliver(wish);
        Check.due("the leader is none any more", 'f', () -> x.role(0));
        Check.due("its read is lost", 'l', () -> x.readState(0));
        Check.noElement("and has no value", () -> x.readValue(0));
    }

    /** What a leader knew of its rounds ahead of its crash is no help as it leads again. */
    private static void rowsOfANewLeader() {
        QuorumAlmanac x = Play.settled();
        for (int round = 0; round < 5; round++) {
            x.askRead(0, 1);
            Play.deliverAll(x);
        }
        x.sync(1);
        int early = x.earliest();
        x.crash(0);
        x.start(0);
        Play.tickTo(x, 19);
        x.tick(0);
        x.deliver(early + 1);
        x.deliver(early + 3);
        Check.due("it leads again", "l 2", () -> x.role(0) + " " + x.term(0));
        x.sync(0);
        x.deliver(early + 4);
        x.sync(1);
        x.deliver(early + 7);
        Check.due("its 'o' is committed", 2, () -> x.committed(0));
        x.askRead(0, 1);
        Check.due("a read waits for a round of this term", 'w', () -> x.readState(5));
        Check.due("an answer of node 1 of the term ahead", "k 10", () -> x.kindOf(early) + " " + x.between(early));
        x.deliver(early);
        Check.due("is no help", 'w', () -> x.readState(5));
    }

    private static int wishOf(QuorumAlmanac x, int between) {
        for (int message = x.earliest(); message < 300; message++) {
            int number = message;
            if (Check.told(() -> x.kindOf(number)).equals("v") && x.between(number) == between) {
                return number;
            }
        }
        return -1;
    }

    private static void noSuchRead() {
        QuorumAlmanac x = Play.settled();
        x.askRead(0, 1);
        for (int read : new int[] {-1, 1, 12, 600, Integer.MIN_VALUE, Integer.MAX_VALUE}) {
            Check.noElement("readState", () -> x.readState(read));
            Check.noElement("readValue", () -> x.readValue(read));
        }
    }

    // Promise 33
    private static void stale() {
        QuorumAlmanac x = Play.settled();
        x.write(0, 2, 22);
        Play.deliverAll(x);
        x.sync(0);
        x.sync(1);
        Play.deliverAll(x);
        Check.due("the leader has applied it, followers have not yet", "22 0 0",
            () -> x.readStale(0, 2) + " " + x.readStale(1, 2) + " " + x.readStale(2, 2));
        x.write(0, 2, 23);
        x.deliver(x.earliest());
        Check.due("one has", "22 0", () -> x.readStale(1, 2) + " " + x.readStale(2, 2));
        x.crash(1);
        x.start(1);
        Check.due("and has it no more behind a crash", 0, () -> x.readStale(1, 2));
    }

    // Promise 34
    private static void ranges() {
        QuorumAlmanac x = Play.alone();
        x.reshape(0, 5, true);
        x.reshape(0, 10, true);
        Check.due("not committed", 0, () -> x.rangeOf(0, 12));
        x.sync(0);
        Check.due("three ranges", "0 0 5 5 10 10", () -> x.rangeOf(0, 0) + " " + x.rangeOf(0, 4) + " "
            + x.rangeOf(0, 5) + " " + x.rangeOf(0, 9) + " " + x.rangeOf(0, 10) + " " + x.rangeOf(0, 19));
        x.reshape(0, 6, false);
        x.reshape(0, 5, true);
        x.sync(0);
        Check.due("what does nothing", "5 5", () -> x.rangeOf(0, 5) + " " + x.rangeOf(0, 6));
        x.reshape(0, 5, false);
        x.sync(0);
        Check.due("two ranges", "0 10", () -> x.rangeOf(0, 9) + " " + x.rangeOf(0, 10));
    }

    // Promise 35
    private static void loads() {
        QuorumAlmanac x = Play.alone();
        x.write(0, 0, 1);
        x.write(0, 19, 1);
        Check.due("not committed", 0, () -> x.load(0, 0));
        x.sync(0);
        Check.due("two writes to one range", "2 2", () -> x.load(0, 0) + " " + x.load(0, 7));
        x.reshape(0, 8, true);
        x.sync(0);
        Check.due("both parts begin with 0", "0 0", () -> x.load(0, 7) + " " + x.load(0, 8));
        x.write(0, 7, 1);
        x.write(0, 8, 1);
        x.write(0, 9, 1);
        x.write(0, 8, 1);
        x.sync(0);
        Check.due("each for itself", "1 3", () -> x.load(0, 0) + " " + x.load(0, 19));
        x.reshape(0, 8, true);
        x.reshape(0, 9, false);
        x.sync(0);
        Check.due("what does nothing", "1 3", () -> x.load(0, 0) + " " + x.load(0, 19));
        x.reshape(0, 12, true);
        x.write(0, 12, 1);
        x.sync(0);
        Check.due("a range that is split begins anew", "1 0 1", () -> x.load(0, 7) + " " + x.load(0, 11) + " "
            + x.load(0, 12));
        x.write(0, 8, 2);
        x.reshape(0, 12, false);
        x.sync(0);
        Check.due("the sum of both", "1 2", () -> x.load(0, 7) + " " + x.load(0, 12));
        x.reshape(0, 8, false);
        x.sync(0);
        Check.due("the sum of both", "3 3", () -> x.load(0, 7) + " " + x.load(0, 12));
        x.reshape(0, 8, true);
        x.sync(0);
        Check.due("split where it was before", "0 0", () -> x.load(0, 7) + " " + x.load(0, 8));
        x.write(0, 1, 1);
        x.write(0, 2, 2);
        x.write(0, 9, 1);
        x.reshape(0, 8, false);
        x.sync(0);
        x.compact(0);
        x.crash(0);
        x.start(0);
        Check.due("kept by the snapshot", "3 0", () -> x.load(0, 19) + " " + x.rangeOf(0, 19));
    }
}
