/** Promise 41, part by part: each of its parts can be broken, by a loss of committed entries, with the others in place. */
final class SoundTest {
    public static void main(String[] args) {
        soundBehindReads();
        twoLeadersOfATerm();
        differentEntriesOfATerm();
        differentEntriesFurtherAhead();
        whatEntriesTell();
        firstAndLastThatBothHave();
        splitThatOneHasApplied();
        committedEntryIsAnother();
        snapshotIsOfAnother();
        snapshotOfTheSameStore();
        snapshotOfTheSameTerm();
        storeIsOfWhatIsGone();
        readByLease();
        Check.end();
    }

    private static void soundBehindReads() {
        QuorumAlmanac x = Play.settled();
        x.write(0, 1, 11);
        Play.deliverAll(x);
        x.sync(0);
        x.sync(1);
        Check.due("a read by lease ahead of a commit", "0 true", () -> x.readByLease(0, 1) + " " + x.isSound());
        Play.deliverAll(x);
        Check.due("behind it", "11 true", () -> x.readByLease(0, 1) + " " + x.isSound());
        x.askRead(0, 1);
        Play.deliverAll(x);
        Check.due("a read by round of the value as it was asked", "11 true", () -> x.readValue(0) + " " + x.isSound());
        x.write(0, 1, 12);
        x.askRead(0, 1);
        x.sync(0);
        x.deliver(Play.lastOf(x, 'a', 1) - 2);
        x.sync(1);
        int answer = Play.lastOf(x, 'k', 10);
        x.deliver(answer);
        Check.due("committed while the read waits", "3 w", () -> x.committed(0) + " " + x.readState(1));
        Play.deliverAll(x);
        Check.due("of a later value", "12 true", () -> x.readValue(1) + " " + x.isSound());
        x.write(0, 1, 13);
        x.askRead(0, 1);
        Play.deliverAll(x);
        Check.due("of one that is not committed yet", "12 true", () -> x.readValue(2) + " " + x.isSound());
    }

    /**
     * Node 0 is the one member of the set that it alone knows of, by a 'j' and an 'n' behind its snapshot of 2; the
     * others, from which a late snapshot has taken the 'j', have 2 entries. No message waits.
     */
    private static QuorumAlmanac setOfOne() {
        QuorumAlmanac x = Play.settled();
        x.write(0, 1, 2);
        int ofTwo = Play.lastOf(x, 'a', 2);
        x.change(0, 1);
        int ofThree = Play.lastOf(x, 'a', 1);
        x.sync(0);
        x.deliver(ofTwo);
        x.sync(2);
        x.deliver(Play.lastOf(x, 'k', 20));
        x.compact(0);
        x.askRead(0, 1);
        x.deliver(ofThree);
        x.sync(1);
        int answer = Play.lastOf(x, 'k', 10);
        x.deliver(Play.lastOf(x, 's', 1));
        x.deliver(answer);
        x.sync(0);
        Check.due("an 'n' that is committed by node 0 alone", "4 n 1", () -> x.committed(0) + " " + x.entryKind(0, 4)
            + " " + x.members(0));
        Check.due("and not known to the others", "2 7 2 7", () -> x.last(1) + " " + x.members(1) + " " + x.last(2)
            + " " + x.members(2));
        Play.loseAll(x);
        return x;
    }

    /** And leads term 2, with an 'o' at 5; node 1 stands in this term. */
    private static QuorumAlmanac memberAlone() {
        QuorumAlmanac x = setOfOne();
        x.crash(0);
        x.start(0);
        Play.tickTo(x, 20);
        Check.due("node 0 leads, node 1 stands", "l 2 5 c 2", () -> x.role(0) + " " + x.term(0) + " " + x.last(0) + " "
            + x.role(1) + " " + x.term(1));
        return x;
    }

    // "no two leaders that run have the same term"
    private static void twoLeadersOfATerm() {
        QuorumAlmanac x = memberAlone();
        Check.due("one leader", true, () -> x.isSound());
        Play.voteFor(x, 1, 2);
        Check.due("two of the same term", "2 2 false", () -> x.term(0) + " " + x.term(1) + " " + x.isSound());
        x.crash(1);
        Check.due("one of them is down", true, () -> x.isSound());
        x.start(1);
        Check.due("one of them is a follower", "f true", () -> x.role(1) + " " + x.isSound());
    }

    // "have the same entries up to it, as far as both have them"
    private static void differentEntriesOfATerm() {
        QuorumAlmanac x = memberAlone();
        Play.voteFor(x, 1, 2);
        x.write(1, 1, 1);
        x.sync(1);
        x.crash(1);
        Check.due("entry 3 is a 'j' of term 1 or an 'o' of term 2", "j1 o2 4", () -> "" + x.entryKind(0, 3)
            + x.entryTerm(0, 3) + " " + x.entryKind(1, 3) + x.entryTerm(1, 3) + " " + x.last(1));
        Check.due("entries 3 and 4 of other terms don't count", true, () -> x.isSound());
        QuorumAlmanac y = memberAlone();
        Play.voteFor(y, 1, 2);
        y.write(1, 1, 1);
        y.write(1, 1, 1);
        y.sync(1);
        y.crash(1);
        Check.due("entry 5 is an 'o' or a 'w' of term 2", "o2 w2", () -> "" + y.entryKind(0, 5) + y.entryTerm(0, 5) + " "
            + y.entryKind(1, 5) + y.entryTerm(1, 5));
        Check.due("which counts, be one down or not", false, () -> y.isSound());
        y.crash(0);
        Check.due("the 'o' is lost", "4 true", () -> y.last(0) + " " + y.isSound());
    }

    private static void differentEntriesFurtherAhead() {
        QuorumAlmanac x = memberAlone();
        x.write(0, 3, 33);
        Play.voteFor(x, 1, 2);
        for (int i = 4; i <= 5; i++) {
            x.write(1, 1, i);
        }
        x.write(1, 3, 33);
        x.sync(1);
        x.crash(1);
        Check.due("entry 6 of term 2 is the same write", "w2 w2", () -> "" + x.entryKind(0, 6) + x.entryTerm(0, 6) + " "
            + x.entryKind(1, 6) + x.entryTerm(1, 6));
        Check.due("but those ahead of it are not", false, () -> x.isSound());
        x.crash(0);
        Check.due("down to what was synced", "4 true", () -> x.last(0) + " " + x.isSound());
    }

    /**
     * Nodes 0 and 1 lead term 3. The snapshot of node 0 goes to 4, and its 'o' is at 5; that of node 1 goes to 2, and its
     * 'o' is behind so many entries of term 2.
     */
    private static QuorumAlmanac twoOfTermThree(int entries) {
        QuorumAlmanac x = setOfOne();
        x.compact(0);
        x.crash(0);
        x.start(0);
        Play.tickTo(x, 20);
        Play.voteFor(x, 1, 2);
        for (int i = 1; i < entries; i++) {
            x.write(1, 5, 5);
        }
        x.sync(1);
        x.crash(0);
        x.crash(1);
        x.start(0);
        x.start(1);
        Play.loseAll(x);
        Play.tickTo(x, 31);
        Play.voteFor(x, 1, 2);
        Check.due("two leaders", "l 3 5 l 3 " + (3 + entries), () -> x.role(0) + " " + x.term(0) + " " + x.last(0) + " "
            + x.role(1) + " " + x.term(1) + " " + x.last(1));
        return x;
    }

    /** Whether all is sound with an entry more at the one and at the other leader, of which the other is down then. */
    private static Object soundWith(int key, int value, boolean isWrite) {
        QuorumAlmanac x = twoOfTermThree(2);
        x.write(0, 6, 66);
        if (isWrite) {
            x.write(1, key, value);
        } else {
            x.reshape(1, key, true);
        }
        x.sync(1);
        x.crash(1);
        return x.last(1) + " " + x.entryTerm(1, 6) + " " + x.isSound();
    }

    private static void whatEntriesTell() {
        Check.due("the same write", "6 3 true", () -> soundWith(6, 66, true));
        Check.due("another value", "6 3 false", () -> soundWith(6, 67, true));
        Check.due("another key", "6 3 false", () -> soundWith(7, 66, true));
        Check.due("another kind", "6 3 false", () -> soundWith(6, 0, false));
    }

    private static void firstAndLastThatBothHave() {
        QuorumAlmanac x = twoOfTermThree(1);
        x.write(0, 6, 66);
        x.write(1, 5, 5);
        x.write(1, 6, 66);
        x.sync(1);
        x.crash(1);
        Check.due("the first one differs", "5 o3 w3", () -> x.last(0) - 1 + " " + x.entryKind(0, 5) + x.entryTerm(0, 5) + " "
            + x.entryKind(1, 5) + x.entryTerm(1, 5));
        Check.due("which is told by a later one too", false, () -> x.isSound());
        QuorumAlmanac y = twoOfTermThree(2);
        y.write(0, 6, 66);
        y.write(0, 6, 67);
        y.write(1, 6, 66);
        y.sync(1);
        y.crash(1);
        Check.due("what one has alone is as it is", "7 6 true", () -> y.last(0) + " " + y.last(1) + " " + y.isSound());
    }

    private static void splitThatOneHasApplied() {
        QuorumAlmanac x = Play.settled();
        x.reshape(0, 5, true);
        x.write(0, 7, 7);
        x.sync(0);
        x.deliver(Play.lastOf(x, 'a', 1));
        x.sync(1);
        x.deliver(Play.lastOf(x, 'k', 10));
        Check.due("the others have not", "5 0 0 true", () -> x.rangeOf(0, 7) + " " + x.rangeOf(1, 7) + " "
            + x.rangeOf(2, 7) + " " + x.isSound());
        x.reshape(0, 5, false);
        x.sync(0);
        x.deliver(Play.lastOf(x, 'a', 1));
        Check.due("one has, and one has merged it", "5 0 0 true", () -> x.rangeOf(1, 7) + " "
            + commitByOne(x) + " " + x.rangeOf(2, 7) + " " + x.isSound());
    }

    private static int commitByOne(QuorumAlmanac x) {
        x.sync(1);
        x.deliver(Play.lastOf(x, 'k', 10));
        return x.rangeOf(0, 7);
    }

    /** Entries 4 and 5 of the history are gone, and node 1 has committed another entry 4. */
    private static QuorumAlmanac anotherEntryFour() {
        return anotherEntryFour(Play.twoEntriesAreAlone());
    }

    private static QuorumAlmanac anotherEntryFour(QuorumAlmanac x) {
        x.crash(0);
        Play.tickTo(x, 20);
        Play.voteFor(x, 1, 2);
        Check.due("nothing else is known yet", "4 true", () -> x.last(1) + " " + x.isSound());
        x.sync(1);
        Play.deliverAll(x);
        x.sync(2);
        Play.deliverAll(x);
        Check.due("node 1 knows of 4, the history of 5", "4 5", () -> x.committed(1) + " " + x.history());
        return x;
    }

    // "what a node knows to be committed is as the history tells"
    private static void committedEntryIsAnother() {
        QuorumAlmanac x = anotherEntryFour();
        Check.due("an 'o' of term 2, not a 'w' of term 1", "o2 false",
            () -> "" + x.entryKind(1, 4) + x.entryTerm(1, 4) + " " + x.isSound());
        x.crash(1);
        Check.due("it is forgotten", "3 true", () -> x.committed(1) + " " + x.isSound());
        x.start(1);
        Check.due("and stays so", "3 4 true", () -> x.committed(1) + " " + x.last(1) + " " + x.isSound());
    }

    private static void snapshotIsOfAnother() {
        QuorumAlmanac x = anotherEntryFour();
        Check.due("a snapshot in place of it", 1, () -> x.compact(1));
        Check.due("is not as the history tells either", "13 15 false",
            () -> x.readStale(1, 1) + " " + x.valueByHistory(1) + " " + x.isSound());
        x.crash(1);
        Check.due("and is not forgotten", "4 false", () -> x.committed(1) + " " + x.isSound());
    }

    private static void snapshotOfTheSameStore() {
        QuorumAlmanac x = anotherEntryFour(Play.twoEntriesAreAlone(false));
        Check.due("an 'o' of term 2, not an 'm' of term 1", "o2 false",
            () -> "" + x.entryKind(1, 4) + x.entryTerm(1, 4) + " " + x.isSound());
        Check.due("a snapshot in place of it", 1, () -> x.compact(1));
        Check.due("holds what the history makes", "4 13 true",
            () -> x.committed(1) + " " + x.readStale(1, 1) + " " + x.isSound());
    }

    private static void snapshotOfTheSameTerm() {
        QuorumAlmanac x = anotherEntryFour();
        x.write(1, 2, 22);
        x.write(1, 2, 22);
        Play.deliverAll(x);
        x.sync(1);
        x.sync(2);
        Play.deliverAll(x);
        Check.due("entry 6 is that of the history", "6 6", () -> x.committed(1) + " " + x.history());
        Check.due("a snapshot of it", 3, () -> x.compact(1));
        x.crash(1);
        Check.due("holds what the lost entries have not written", "13 15 false", () -> {
            x.start(1);
            return x.readStale(1, 1) + " " + x.valueByHistory(1) + " " + x.isSound();
        });
    }

    private static void storeIsOfWhatIsGone() {
        QuorumAlmanac x = Play.twoEntriesAreAlone();
        Check.due("5 entries, known to node 0", "5 true", () -> x.committed(0) + " " + x.isSound());
        Play.tickTo(x, 20);
        Play.voteFor(x, 1, 2);
        x.deliver(Play.lastOf(x, 'a', 10));
        Check.due("entries 4 and 5 are cut off", "4 5 false",
            () -> x.last(0) + " " + x.committed(0) + " " + x.isSound());
        x.crash(0);
        Check.due("and forgotten", "3 true", () -> x.committed(0) + " " + x.isSound());
    }

    // "had the value that the history had when it was read by lease"
    private static void readByLease() {
        QuorumAlmanac x = anotherEntryFour();
        Check.due("a key that the lost entries didn't write", 0, () -> x.readByLease(1, 2));
        x.crash(1);
        Check.due("is read as the history has it", true, () -> x.isSound());
        QuorumAlmanac y = anotherEntryFour();
        Check.due("a key that they wrote", "13 15", () -> y.readByLease(1, 1) + " " + y.valueByHistory(1));
        y.crash(1);
        Check.due("is not", false, () -> y.isSound());
    }
}
