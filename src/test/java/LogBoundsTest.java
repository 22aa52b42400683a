/** The bounds of logs: indexes that are less than, the same as or greater than another, and how many make a majority. */
final class LogBoundsTest {
    public static void main(String[] args) {
        entriesFromOneOn();
        appendsOfFour();
        snapshotOrAppend();
        aheadOfASnapshot();
        aheadIsTheLastEntry();
        aheadIsBeyondTheLastEntry();
        cutFromTheFirstOther();
        sameEntriesStay();
        snapshotAndWhatIsKnown();
        snapshotAheadOfWhatIsSynced();
        majoritiesOfAgreement();
        leaderThatHasNotSynced();
        indexEighty();
        ownEntryUpToEighty();
        appliedByOne();
        leavesByTheLastOne();
        leavesByWhatIsNewAlone();
        changeIsNoMerge();
        rangesOfASnapshot();
        rangesAtTheSplit();
        Check.end();
    }

    // "from 1 on"; "of its last entry"; "of its snapshot"
    private static void entriesFromOneOn() {
        QuorumAlmanac x = Play.logOf(5);
        for (int index : new int[] {0, 6}) {
            Check.noElement("entry " + index, () -> x.entryTerm(0, index));
            Check.noElement("entry " + index, () -> x.entryKind(0, index));
        }
        Check.due("the first and the last one", "o1 w1", () -> "" + x.entryKind(0, 1) + x.entryTerm(0, 1) + " "
            + x.entryKind(0, 5) + x.entryTerm(0, 5));
        x.sync(0);
        x.write(0, 1, 1);
        Check.due("in place of five", 5, () -> x.compact(0));
        Check.noElement("the last one of the snapshot", () -> x.entryTerm(0, 5));
        Check.noElement("the last one of the snapshot", () -> x.entryKind(0, 5));
        Check.due("the first one behind it", "w1", () -> "" + x.entryKind(0, 6) + x.entryTerm(0, 6));
        Check.due("the mean", 1.2, () -> x.meanLast());
    }

    // "at most 4 entries from the next index on"
    private static void appendsOfFour() {
        for (int i = 1; i <= 6; i++) {
            int count = i;
            QuorumAlmanac x = Play.elected();
            for (int index = 2; index <= count; index++) {
                x.write(0, 1, index);
            }
            x.deliver(Play.lastOf(x, 'a', 1));
            Check.due("of " + count + " entries", Math.min(4, count), () -> x.last(1));
            x.sync(1);
            x.deliver(Play.lastOf(x, 'k', 10));
            x.write(0, 1, 99);
            x.deliver(Play.lastOf(x, 'a', 1));
            Check.due("of the rest, and one more", count + 1, () -> x.last(1));
        }
    }

    // "not greater than the index of the snapshot of the leader"
    private static void snapshotOrAppend() {
        QuorumAlmanac x = Play.settled();
        x.write(0, 1, 1);
        x.sync(0);
        x.deliver(Play.lastOf(x, 'a', 1));
        x.sync(1);
        x.deliver(Play.lastOf(x, 'k', 10));
        Check.due("a snapshot of 2", 2, () -> x.compact(0));
        Play.loseAll(x);
        x.askRead(0, 1);
        int first = x.earliest();
        Check.due("the next index of node 1 is 3, that of node 2 is 2", "a 1 s 2", () -> x.kindOf(first) + " "
            + x.between(first) + " " + x.kindOf(first + 1) + " " + x.between(first + 1));
        x.write(0, 1, 2);
        x.deliver(Play.lastOf(x, 'a', 1));
        Check.due("behind the entry of the snapshot", 3, () -> x.last(1));
    }

    // "less than that of its snapshot", "the index of its snapshot"
    private static void aheadOfASnapshot() {
        QuorumAlmanac x = Play.settled();
        x.write(0, 1, 1);
        x.deliver(Play.lastOf(x, 'a', 2));
        x.sync(2);
        x.sync(0);
        x.deliver(Play.lastOf(x, 'k', 20));
        x.write(0, 1, 2);
        x.deliver(Play.lastOf(x, 'a', 1));
        Play.loseAll(x);
        Check.due("a snapshot of 2 and an entry 3 at node 1", "2 3", () -> x.compact(1) + " " + x.last(1));
        for (int i = 4; i <= 8; i++) {
            x.write(0, 1, i);
        }
        int append = Play.lastOf(x, 'a', 1);
        long before = x.delivered();
        float share = x.refusedShare();
        x.deliver(append);
        Check.due("the index 1 ahead is less: refused", (share * before + 1) / (before + 1), () -> x.refusedShare());
        Check.due("nothing is added", 3, () -> x.last(1));
        x.deliver(Play.lastOf(x, 'k', 10));
        x.askRead(0, 1);
        x.deliver(Play.lastOf(x, 'a', 1));
        Check.due("the index 2 ahead is the same: four behind it", "6 2 2",
            () -> x.last(1) + " " + x.snapshot(1) + " " + x.committed(1));
        Check.due("not refused", (share * before + 1) / (before + 3), () -> x.refusedShare());
    }

    /** Node 1 leads term 2 with 3 entries and its 'o'; node 2 has so many of these entries. */
    private static QuorumAlmanac nextIsFour(int entries) {
        QuorumAlmanac x = Play.settled();
        x.write(0, 1, 2);
        int one = Play.lastOf(x, 'a', 2);
        x.write(0, 1, 3);
        x.deliver(Play.lastOf(x, 'a', 1));
        x.deliver(entries == 2 ? one : Play.lastOf(x, 'a', 2));
        Play.loseAll(x);
        x.crash(0);
        Play.tickTo(x, 20);
        Play.voteFor(x, 1, 2);
        Check.due("the logs", "4 " + entries, () -> x.last(1) + " " + x.last(2));
        return x;
    }

    // "or greater than that of its last entry", "that of its last entry"
    private static void aheadIsTheLastEntry() {
        QuorumAlmanac x = nextIsFour(3);
        float share = x.refusedShare();
        x.deliver(Play.lastOf(x, 'a', 12));
        Check.due("the index ahead is that of the last entry", "4 o", () -> x.last(2) + " " + x.entryKind(2, 4));
        Check.due("nothing is refused", "0.0 0.0", () -> share + " " + x.refusedShare());
    }

    private static void aheadIsBeyondTheLastEntry() {
        QuorumAlmanac x = nextIsFour(2);
        long before = x.delivered();
        x.deliver(Play.lastOf(x, 'a', 12));
        Check.due("the index ahead is one more", 2, () -> x.last(2));
        Check.due("it is refused", 1.0f / (before + 1), () -> x.refusedShare());
        x.deliver(Play.lastOf(x, 'k', 21));
        for (int i = 5; i <= 8; i++) {
            x.write(1, 1, i);
        }
        x.deliver(Play.lastOf(x, 'a', 12));
        Check.due("four from behind the hint on", "6 1 2", () -> x.last(2) + " " + x.entryTerm(2, 3) + " "
            + x.entryTerm(2, 4));
    }

    // "is cut off, with all that are behind it"
    private static void cutFromTheFirstOther() {
        QuorumAlmanac x = Play.settled();
        x.write(0, 1, 2);
        x.deliver(Play.lastOf(x, 'a', 1));
        x.write(0, 1, 3);
        x.write(0, 1, 4);
        x.sync(0);
        Play.loseAll(x);
        x.crash(0);
        Play.tickTo(x, 20);
        Play.voteFor(x, 1, 2);
        x.start(0);
        Check.due("4 entries of term 1; 2 and one of term 2", "4 4 3",
            () -> x.last(0) + " " + x.synced(0) + " " + x.last(1));
        x.deliver(Play.lastOf(x, 'a', 10));
        Check.due("two are left, and one is added", "3 2 1 2",
            () -> x.last(0) + " " + x.synced(0) + " " + x.entryTerm(0, 2) + " " + x.entryTerm(0, 3));
    }

    // "those that it has not are added"
    private static void sameEntriesStay() {
        QuorumAlmanac x = Play.elected();
        x.write(0, 1, 2);
        int two = Play.lastOf(x, 'a', 1);
        x.write(0, 1, 3);
        x.write(0, 1, 4);
        x.deliver(Play.lastOf(x, 'a', 1));
        x.sync(1);
        Check.due("four entries", "4 4", () -> x.last(1) + " " + x.synced(1));
        x.deliver(two);
        Check.due("an append of the first two leaves those behind", "4 4", () -> x.last(1) + " " + x.synced(1));
        x.deliver(3);
        Check.due("and so does one of the first one", "4 4", () -> x.last(1) + " " + x.synced(1));
        Check.due("nothing is refused", 0.0f, () -> x.refusedShare());
    }

    /**
     * To node 2, which has nothing yet, there wait appends of 4 entries that tell it of 1 and of 2, and a snapshot of
     * 2; their numbers are put into the array.
     */
    private static QuorumAlmanac snapshotOfTwo(int[] messages) {
        QuorumAlmanac x = Play.elected();
        x.write(0, 6, 66);
        x.write(0, 6, 67);
        x.write(0, 6, 68);
        x.sync(0);
        for (int known = 1; known <= 2; known++) {
            x.deliver(known == 1 ? 3 : 5);
            x.sync(1);
            x.deliver(Play.lastOf(x, 'k', 10));
            x.askRead(0, 6);
            messages[known] = Play.lastOf(x, 'a', 2);
        }
        Check.due("a snapshot of 2", "2 4", () -> x.compact(0) + " " + x.last(0));
        x.askRead(0, 6);
        messages[0] = Play.lastOf(x, 's', 2);
        return x;
    }

    // "if its index is greater than what it knows to be committed"
    private static void snapshotAndWhatIsKnown() {
        int[] messages = new int[3];
        QuorumAlmanac x = snapshotOfTwo(messages);
        x.deliver(messages[1]);
        Check.due("node 2 knows of 1", "1 4 0", () -> x.committed(2) + " " + x.last(2) + " " + x.readStale(2, 6));
        x.deliver(messages[0]);
        Check.due("2 is greater: the log is that of the snapshot", "2 2 2 2 66", () -> x.committed(2) + " " + x.last(2)
            + " " + x.synced(2) + " " + x.snapshot(2) + " " + x.readStale(2, 6));
        QuorumAlmanac y = snapshotOfTwo(messages);
        y.deliver(messages[2]);
        Check.due("node 2 knows of 2", "2 4 66", () -> y.committed(2) + " " + y.last(2) + " " + y.readStale(2, 6));
        y.deliver(messages[0]);
        Check.due("2 is the same: nothing is changed", "2 4 0 0 66", () -> y.committed(2) + " " + y.last(2) + " "
            + y.synced(2) + " " + y.snapshot(2) + " " + y.readStale(2, 6));
        QuorumAlmanac z = snapshotOfTwo(messages);
        z.deliver(messages[2]);
        z.sync(2);
        z.deliver(Play.lastOf(z, 'k', 20));
        z.askRead(0, 6);
        z.deliver(Play.lastOf(z, 'a', 2));
        Check.due("node 2 knows of 4", "4 4 68", () -> z.committed(2) + " " + z.last(2) + " " + z.readStale(2, 6));
        z.deliver(messages[0]);
        Check.due("2 is less: nothing is changed", "4 4 4 0 68", () -> z.committed(2) + " " + z.last(2) + " "
            + z.synced(2) + " " + z.snapshot(2) + " " + z.readStale(2, 6));
    }

    // "up to which it agrees and has synced"
    private static void snapshotAheadOfWhatIsSynced() {
        int[] messages = new int[3];
        QuorumAlmanac x = snapshotOfTwo(messages);
        x.deliver(messages[2]);
        x.deliver(messages[0]);
        Check.due("a snapshot of what is known, but not synced", "2 0", () -> x.committed(2) + " " + x.synced(2));
        x.deliver(Play.lastOf(x, 'k', 20));
        x.askRead(0, 6);
        Check.due("is sent again", true, () -> Play.lastOf(x, 's', 2) > messages[0]);
        x.sync(2);
        x.deliver(Play.lastOf(x, 'k', 20));
        Check.due("4 are synced", 4, () -> x.committed(0));
        int before = Play.lastOf(x, 's', 2);
        x.askRead(0, 6);
        Check.due("no snapshot any more", before, () -> Play.lastOf(x, 's', 2));
    }

    // "up to which a majority agrees": of one to five
    private static void majoritiesOfAgreement() {
        int[] needed = {0, 1, 2, 2, 3, 3};
        for (int size = 1; size <= 5; size++) {
            int set = (1 << size) - 1;
            QuorumAlmanac x = new QuorumAlmanac(set);
            Play.crashAllBut(x, set);
            Play.tickAll(x, 9);
            x.tick(0);
            Play.deliverAll(x);
            Check.due("nothing is synced", "l 0 0", () -> x.role(0) + " " + x.synced(0) + " " + x.committed(0));
            x.sync(0);
            int agreeing = 1;
            while (agreeing < needed[size]) {
                Check.due(agreeing + " of " + size, "0 0", () -> x.committed(0) + " " + x.history());
                x.sync(agreeing);
                x.deliver(x.earliest());
                agreeing++;
            }
            Check.due(agreeing + " of " + size, "1 1", () -> x.committed(0) + " " + x.history());
        }
    }

    // "the leader itself agrees up to what it has synced"
    private static void leaderThatHasNotSynced() {
        QuorumAlmanac x = Play.elected();
        x.deliver(3);
        x.deliver(4);
        x.sync(1);
        x.deliver(Play.lastOf(x, 'k', 10));
        Check.due("one of three", "0 0", () -> x.committed(0) + " " + x.synced(0));
        x.sync(2);
        x.deliver(Play.lastOf(x, 'k', 20));
        Check.due("two of three", "1 0", () -> x.committed(0) + " " + x.synced(0));
        Check.due("its own entry is lost all the same", 1, () -> x.crash(0));
        Check.due("the history is not", "1 0 true", () -> x.history() + " " + x.last(0) + " " + x.isSound());
    }

    // "Logs go to the index 80"
    private static void indexEighty() {
        QuorumAlmanac x = Play.logOf(79);
        Check.due("a write to 80", 80, () -> x.write(0, 1, 1));
        Check.state("a write behind it", () -> x.write(0, 1, 1));
        for (boolean isSplit : new boolean[] {true, false}) {
            QuorumAlmanac y = Play.logOf(79);
            Check.due("a split or a merge to 80", 80, () -> y.reshape(0, 1, isSplit));
            Check.state("one behind it", () -> y.reshape(0, 1, isSplit));
        }
        QuorumAlmanac z = Play.logOf(78);
        z.sync(0);
        Check.due("a change to 79", 79, () -> z.change(0, 1));
        Check.due("a write to 80", 80, () -> z.write(0, 1, 1));
        z.sync(0);
        Check.due("an 'n' to 81", "81 n", () -> z.last(0) + " " + z.entryKind(0, 81));
        Check.noElement("none to 82", () -> z.entryKind(0, 82));
    }

    // "unless its log goes to the index 80 already"
    private static void ownEntryUpToEighty() {
        for (int i = 78; i <= 80; i++) {
            int entries = i;
            QuorumAlmanac x = Play.logOf(entries);
            x.sync(0);
            x.crash(0);
            x.start(0);
            Play.tickOne(x, 0, 10);
            Check.due("the log of a new leader behind " + entries, "l " + Math.min(80, entries + 1),
                () -> x.role(0) + " " + x.last(0));
        }
    }

    // "has applied no entry behind its snapshot"
    private static void appliedByOne() {
        QuorumAlmanac x = Play.settled();
        x.write(0, 1, 1);
        Check.state("nothing is applied", () -> x.compact(1));
        x.deliver(Play.lastOf(x, 'a', 1));
        Check.due("one entry is applied, two are there", "1 2", () -> x.committed(1) + " " + x.last(1));
        Check.due("one is gone", 1, () -> x.compact(1));
        Check.due("one is left", "1 2 w", () -> x.snapshot(1) + " " + x.last(1) + " " + x.entryKind(1, 2));
        Check.state("nothing is applied behind it", () -> x.compact(1));
    }

    // "a leader that has applied an 'n' entry in whose set it is not becomes a follower"
    private static void leavesByTheLastOne() {
        QuorumAlmanac x = Play.settled();
        x.change(0, 6);
        x.sync(0);
        Play.deliverAll(x);
        x.sync(1);
        x.sync(2);
        Play.deliverAll(x);
        Check.due("an 'n' is the last entry", "3 n 2 l",
            () -> x.last(0) + " " + x.entryKind(0, 3) + " " + x.committed(0) + " " + x.role(0));
        x.askRead(0, 1);
        x.sync(0);
        Play.deliverAll(x);
        x.sync(1);
        x.deliver(x.earliest());
        Check.due("one of two", "2 l", () -> x.committed(0) + " " + x.role(0));
        x.sync(2);
        x.deliver(x.earliest());
        Check.due("both", "3 f", () -> x.committed(0) + " " + x.role(0));
    }

    private static void leavesByWhatIsNewAlone() {
        QuorumAlmanac x = Play.settled();
        x.change(0, 3);
        x.sync(0);
        Play.deliverAll(x);
        x.sync(1);
        x.deliver(x.earliest());
        x.sync(0);
        x.askRead(0, 1);
        x.deliver(Play.lastOf(x, 'a', 1));
        x.sync(1);
        x.deliver(Play.lastOf(x, 'k', 10));
        Check.due("an 'n' without node 2", "3 n 3", () -> x.committed(0) + " " + x.entryKind(0, 3) + " " + x.members(0));
        x.change(0, 7);
        x.deliver(Play.lastOf(x, 'a', 2));
        Check.due("node 2 has applied it, and is a member again", "3 4 7",
            () -> x.committed(2) + " " + x.last(2) + " " + x.members(2));
        Play.loseAll(x);
        Play.crashAllBut(x, 4);
        Play.tickOne(x, 2, 26);
        x.start(0);
        x.start(1);
        Play.tickTo(x, 45);
        Check.due("node 2 stands for the third time", "c 4", () -> x.role(2) + " " + x.term(2));
        x.deliver(Play.lastOf(x, 'v', 20));
        x.deliver(Play.lastOf(x, 'y', 2));
        Check.due("one of the old set of two", 'c', () -> x.role(2));
        Play.voteFor(x, 2, 1);
        Play.loseAll(x);
        x.sync(2);
        for (int i = 0; i < 2; i++) {
            x.write(2, 1, i);
            Play.deliverAll(x);
        }
        x.sync(0);
        x.sync(1);
        Play.deliverAll(x);
        Check.due("its entries are committed, and it leads on", "7 n l",
            () -> x.committed(2) + " " + x.entryKind(2, 8) + " " + x.role(2));
    }

    // "an 'm' at a key", told by no other entry
    private static void changeIsNoMerge() {
        QuorumAlmanac x = Play.alone();
        x.reshape(0, 1, true);
        x.write(0, 5, 5);
        x.change(0, 1);
        x.sync(0);
        x.sync(0);
        Check.due("a 'j' and an 'n' of the set 1", "5 n", () -> x.committed(0) + " " + x.entryKind(0, 5));
        Check.due("leave the range that begins with 1", "1 1", () -> x.rangeOf(0, 5) + " " + x.load(0, 5));
    }

    private static void rangesOfASnapshot() {
        QuorumAlmanac x = Play.elected();
        x.reshape(0, 5, true);
        x.reshape(0, 9, true);
        x.write(0, 7, 1);
        x.sync(0);
        x.deliver(Play.lastOf(x, 'a', 1));
        x.sync(1);
        x.deliver(Play.lastOf(x, 'k', 10));
        Check.due("a snapshot of 4", 4, () -> x.compact(0));
        x.askRead(0, 7);
        Check.due("one range at node 2", "0 0", () -> x.rangeOf(2, 8) + " " + x.load(2, 8));
        x.deliver(Play.lastOf(x, 's', 2));
        Check.due("those of the snapshot", "0 5 9 0 1 0", () -> x.rangeOf(2, 4) + " " + x.rangeOf(2, 8) + " "
            + x.rangeOf(2, 19) + " " + x.load(2, 4) + " " + x.load(2, 8) + " " + x.load(2, 19));
        x.reshape(0, 9, false);
        x.reshape(0, 15, true);
        x.sync(0);
        x.deliver(Play.lastOf(x, 'a', 1));
        x.sync(1);
        x.deliver(Play.lastOf(x, 'k', 10));
        Check.due("a merge and a split behind it", "6 5 15",
            () -> x.committed(0) + " " + x.rangeOf(0, 14) + " " + x.rangeOf(0, 15));
        x.crash(0);
        x.start(0);
        Check.due("those of the snapshot", "5 9 9 1", () -> x.rangeOf(0, 8) + " " + x.rangeOf(0, 14) + " "
            + x.rangeOf(0, 15) + " " + x.load(0, 5));
    }

    // "split ahead of a key", "at which a range begins already", "at which none begins"
    private static void rangesAtTheSplit() {
        QuorumAlmanac x = Play.alone();
        x.reshape(0, 1, true);
        x.reshape(0, 19, true);
        x.write(0, 0, 1);
        x.write(0, 1, 1);
        x.write(0, 18, 1);
        x.write(0, 19, 1);
        x.sync(0);
        Check.due("three ranges", "0 1 1 19", () -> x.rangeOf(0, 0) + " " + x.rangeOf(0, 1) + " " + x.rangeOf(0, 18)
            + " " + x.rangeOf(0, 19));
        Check.due("their writes", "1 2 2 1", () -> x.load(0, 0) + " " + x.load(0, 1) + " " + x.load(0, 18) + " "
            + x.load(0, 19));
        x.reshape(0, 1, true);
        x.reshape(0, 19, true);
        x.reshape(0, 2, false);
        x.reshape(0, 18, false);
        x.sync(0);
        Check.due("nothing is done", "0 1 19 1 2 1", () -> x.rangeOf(0, 0) + " " + x.rangeOf(0, 18) + " "
            + x.rangeOf(0, 19) + " " + x.load(0, 0) + " " + x.load(0, 18) + " " + x.load(0, 19));
        x.reshape(0, 19, false);
        x.sync(0);
        Check.due("the last one is merged with the one ahead of it", "1 3", () -> x.rangeOf(0, 19) + " " + x.load(0, 19));
        x.reshape(0, 1, false);
        x.sync(0);
        Check.due("all are one range", "0 4", () -> x.rangeOf(0, 19) + " " + x.load(0, 0));
    }
}
