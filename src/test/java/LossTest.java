/** What promises 3, 6, 11 to 17, 22 and 41 ask for behind a loss of committed entries, which a late snapshot can bring. */
final class LossTest {
    public static void main(String[] args) {
        appendAtASnapshot();
        appendBehindAnEntryOfAnotherTerm();
        hintBeyondTheLog();
        committedEntriesAreCutOff();
        snapshotOfWhatWasCutOff();
        snapshotOfWhatWasReplaced();
        Check.end();
    }

    /** Node 0 runs with a snapshot of 5 entries of term 1; node 1 leads term 2, with entries 4 and 5 of its own. */
    private static QuorumAlmanac snapshotOfFive() {
        QuorumAlmanac x = Play.twoEntriesAreAlone();
        Check.due("all that is committed", 2, () -> x.compact(0));
        x.crash(0);
        Play.tickTo(x, 20);
        Play.voteFor(x, 1, 2);
        x.start(0);
        return x;
    }

    private static void appendAtASnapshot() {
        QuorumAlmanac x = snapshotOfFive();
        x.write(1, 2, 22);
        x.deliver(Play.lastOf(x, 'a', 10));
        Check.due("an append ahead of the snapshot is refused", "5 5", () -> x.last(0) + " " + x.snapshot(0));
        x.deliver(Play.lastOf(x, 'k', 1));
        float share = x.refusedShare();
        long before = x.delivered();
        Check.due("an entry more", 6, () -> x.write(1, 2, 23));
        Check.due("entry 5 of the leader is of term 2", "2 2", () -> x.entryTerm(1, 5) + " " + x.term(1));
        Check.due("an append at the snapshot", 1, () -> x.deliver(Play.lastOf(x, 'a', 10)));
        Check.due("is not refused", share * before / (before + 1), () -> x.refusedShare());
        Check.due("its entry is added", "6 2 w 5",
            () -> x.last(0) + " " + x.entryTerm(0, 6) + " " + x.entryKind(0, 6) + " " + x.snapshot(0));
        Check.due("and synced", 1, () -> x.sync(0));
        x.sync(1);
        x.deliver(Play.lastOf(x, 'k', 1));
        Check.due("both agree up to 6", 6, () -> x.committed(1));
        Check.due("what node 1 knows of 4 and 5 is not as the history tells", "6 23 false",
            () -> x.history() + " " + x.valueByHistory(2) + " " + x.isSound());
    }

    private static void appendBehindAnEntryOfAnotherTerm() {
        // Where an entry is left at the same index, its term counts.
        QuorumAlmanac x = Play.twoEntriesAreGone();
        Play.tickTo(x, 20);
        Play.voteFor(x, 1, 2);
        x.start(0);
        x.write(1, 2, 22);
        x.write(1, 2, 23);
        int append = Play.lastOf(x, 'a', 10);
        Check.due("node 0 has entries 4 and 5 of term 1", "3 5 1",
            () -> x.snapshot(0) + " " + x.last(0) + " " + x.entryTerm(0, 4));
        x.deliver(append);
        Check.due("they are cut off behind the snapshot", "6 2 2 3",
            () -> x.last(0) + " " + x.entryTerm(0, 4) + " " + x.entryTerm(0, 5) + " " + x.synced(0));
        Check.due("all is sound: nobody knows of others", true, () -> x.isSound());
    }

    private static void hintBeyondTheLog() {
        QuorumAlmanac x = snapshotOfFive();
        Check.due("the log of the leader is behind that snapshot", 4, () -> x.last(1));
        x.deliver(Play.lastOf(x, 'a', 10));
        x.deliver(Play.lastOf(x, 'k', 1));
        x.sync(1);
        int last = x.write(1, 2, 22);
        Check.due("5", 5, () -> last);
        Check.due("an append without entries, behind the hint", 1, () -> x.deliver(Play.lastOf(x, 'a', 10)));
        Check.due("is taken", "5 5 0", () -> x.last(0) + " " + x.snapshot(0) + " " + x.sync(0));
        x.deliver(Play.lastOf(x, 'k', 1));
        Check.due("node 0 agrees up to 5, node 1 has synced 4", 4, () -> x.committed(1));
        x.write(1, 2, 23);
        x.deliver(Play.lastOf(x, 'a', 10));
        Check.due("what comes then", "6 2", () -> x.last(0) + " " + x.entryTerm(0, 6));
    }

    /** Node 0 knows 5 entries to be committed, and node 1, which leads term 2, has its 'o' at 4. */
    private static QuorumAlmanac otherEntryFour() {
        QuorumAlmanac x = Play.twoEntriesAreAlone();
        Play.tickTo(x, 20);
        Play.voteFor(x, 1, 2);
        return x;
    }

    private static void committedEntriesAreCutOff() {
        QuorumAlmanac x = otherEntryFour();
        Check.due("an append", 1, () -> x.deliver(Play.lastOf(x, 'a', 10)));
        Check.due("cuts off what is committed", "4 2 3", () -> x.last(0) + " " + x.entryTerm(0, 4) + " " + x.synced(0));
        Check.noElement("entry 5", () -> x.entryTerm(0, 5));
        Check.due("what was applied stays so", "5 15", () -> x.committed(0) + " " + x.readStale(0, 1));
        Check.due("this is not as the history tells", false, () -> x.isSound());
        x.write(1, 1, 16);
        x.sync(1);
        Play.deliverAll(x);
        x.sync(2);
        x.sync(0);
        Play.deliverAll(x);
        Check.due("an entry 5 again, which is not applied again", "5 5 15",
            () -> x.last(0) + " " + x.committed(0) + " " + x.readStale(0, 1));
        Check.due("but by the others", "5 16", () -> x.committed(1) + " " + x.readStale(1, 1));
        Check.due("a crash", 0, () -> x.crash(0));
        x.start(0);
        Check.due("what the snapshot holds", "3 13", () -> x.committed(0) + " " + x.readStale(0, 1));
    }

    private static void snapshotOfWhatWasCutOff() {
        QuorumAlmanac x = otherEntryFour();
        x.deliver(Play.lastOf(x, 'a', 10));
        Check.due("a snapshot of what was applied, in place of the one entry that is left", "4 1",
            () -> x.last(0) + " " + x.compact(0));
        Check.due("up to 5", "5 5 5 5",
            () -> x.last(0) + " " + x.snapshot(0) + " " + x.synced(0) + " " + x.committed(0));
        Check.noElement("no entry is left", () -> x.entryTerm(0, 4));
        Check.state("nor is one applied behind it", () -> x.compact(0));
        x.crash(0);
        x.start(0);
        Check.due("its store", 15, () -> x.readStale(0, 1));
        x.write(1, 2, 22);
        x.deliver(Play.lastOf(x, 'a', 10));
        Check.due("the append ahead of it is refused", 5, () -> x.last(0));
        x.deliver(Play.lastOf(x, 'k', 1));
        x.write(1, 2, 23);
        x.deliver(Play.lastOf(x, 'a', 10));
        Check.due("entries behind it", "6 2 1", () -> x.last(0) + " " + x.entryTerm(0, 6) + " " + x.sync(0));
        // The snapshot is of the term of what was applied: node 0 may lead those that have less of this term.
        QuorumAlmanac y = otherEntryFour();
        y.deliver(Play.lastOf(y, 'a', 10));
        y.compact(0);
        y.crash(1);
        Play.loseAll(y);
        Play.tickTo(y, 30);
        Check.due("node 2 has 3 entries of term 1", "3 1", () -> y.last(2) + " " + y.entryTerm(2, 3));
        Play.voteFor(y, 0, 2);
    }

    private static void snapshotOfWhatWasReplaced() {
        QuorumAlmanac x = otherEntryFour();
        x.write(1, 1, 16);
        x.write(1, 1, 17);
        x.deliver(Play.lastOf(x, 'a', 10));
        Check.due("other entries 4 and 5", "6 2 2 5",
            () -> x.last(0) + " " + x.entryTerm(0, 4) + " " + x.entryTerm(0, 5) + " " + x.committed(0));
        Check.due("what is in the log is not as the history tells", false, () -> x.isSound());
        Check.due("a snapshot of what was applied, in place of other entries", 2, () -> x.compact(0));
        Check.due("is as the history tells", true, () -> x.isSound());
        Check.due("what is behind it stays", "5 6 2", () -> x.snapshot(0) + " " + x.last(0) + " " + x.entryTerm(0, 6));
        Check.due("its store", 15, () -> x.readStale(0, 1));
        Check.due("the rest is synced", 1, () -> x.sync(0));
    }
}
