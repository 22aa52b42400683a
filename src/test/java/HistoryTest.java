/** Promises 36 to 41: the history, what is counted, and whether all is sound. */
final class HistoryTest {
    public static void main(String[] args) {
        history();
        valueByHistory();
        delivered();
        refusedShare();
        lowerTermsAreRefused();
        meanLast();
        isSound();
        isSoundOverLeaders();
        isNotSound();
        readsAreNotSound();
        Check.end();
    }

    // Promise 36
    private static void history() {
        QuorumAlmanac x = Play.settled();
        Check.due("an entry that the leader knows of", 1, () -> x.history());
        x.write(0, 1, 1);
        x.write(0, 1, 2);
        Check.due("not those that are appended alone", 1, () -> x.history());
        Play.deliverAll(x);
        x.sync(0);
        x.sync(1);
        Play.deliverAll(x);
        Check.due("two more", 3, () -> x.history());
        x.tick(1);
        x.tick(2);
        x.askRead(0, 1);
        Play.deliverAll(x);
        Check.due("no more as others know of them", 3, () -> x.history());
        for (int node = 0; node < 3; node++) {
            x.crash(node);
        }
        Check.due("it stays as all forget", 3, () -> x.history());
        QuorumAlmanac y = Play.alone();
        y.compact(0);
        Check.due("in a snapshot too", 1, () -> y.history());
    }

    // Promise 37
    private static void valueByHistory() {
        QuorumAlmanac x = Play.alone();
        for (int key : new int[] {-1, 20, Integer.MIN_VALUE, Integer.MAX_VALUE}) {
            Check.argument("no such key", () -> x.valueByHistory(key));
        }
        Check.due("no write", "0 0", () -> x.valueByHistory(0) + " " + x.valueByHistory(19));
        x.write(0, 0, -7);
        x.write(0, 19, 8);
        x.reshape(0, 19, true);
        Check.due("not committed", "0 0", () -> x.valueByHistory(0) + " " + x.valueByHistory(19));
        x.sync(0);
        Check.due("committed", "-7 8 0",
            () -> x.valueByHistory(0) + " " + x.valueByHistory(19) + " " + x.valueByHistory(18));
        x.write(0, 0, 9);
        x.sync(0);
        Check.due("one behind the other", 9, () -> x.valueByHistory(0));
        x.write(0, 0, 10);
        x.crash(0);
        Check.due("behind a crash", 9, () -> x.valueByHistory(0));
    }

    // Promise 38
    private static void delivered() {
        QuorumAlmanac x = Play.candidate();
        Check.due("none", 0L, () -> x.delivered());
        int twin = x.copy(0);
        x.lose(1);
        Check.due("copies and losses", 0L, () -> x.delivered());
        x.deliver(0);
        Check.due("one", 1L, () -> x.delivered());
        x.crash(1);
        x.deliver(twin);
        Check.due("to a node that is down", 1L, () -> x.delivered());
        x.start(1);
        x.deliver(x.earliest());
        x.deliver(x.earliest());
        Check.due("three", 3L, () -> x.delivered());
        Check.noElement("no message", () -> x.deliver(0));
        Check.due("three still", 3L, () -> x.delivered());
    }

    // Promise 39
    private static void refusedShare() {
        QuorumAlmanac x = Play.candidate();
        Check.due("none delivered", "throws.ArithmeticException", () -> x.refusedShare());
        x.crash(1);
        x.deliver(0);
        Check.due("to a node that is down", "throws.ArithmeticException", () -> x.refusedShare());
        x.deliver(1);
        Check.due("none of one", 0.0f, () -> x.refusedShare());
    }

    private static void lowerTermsAreRefused() {
        QuorumAlmanac x = Play.settled();
        x.write(0, 1, 1);
        int append = x.earliest();
        x.deliver(append + 1);
        x.sync(2);
        x.sync(0);
        x.deliver(append + 3);
        Check.due("committed", 2, () -> x.committed(0));
        Check.due("compact", 2, () -> x.compact(0));
        x.askRead(0, 1);
        int snapshot = append + 4;
        Check.due("a snapshot to node 1", "s 1", () -> x.kindOf(snapshot) + " " + x.between(snapshot));
        x.crash(0);
        Play.tickTo(x, 20);
        Check.due("node 1 stands", "c 2", () -> x.role(1) + " " + x.term(1));
        Check.due("none of them", 0.0f, () -> x.refusedShare());
        long before = x.delivered();
        Check.due("an append of a lower term is answered", 1, () -> x.deliver(append));
        Check.due("one", 1.0f / (before + 1), () -> x.refusedShare());
        Check.due("a snapshot of a lower term is answered", 1, () -> x.deliver(snapshot));
        Check.due("two", 2.0f / (before + 2), () -> x.refusedShare());
        Check.due("neither is taken", "1 0 c", () -> x.last(1) + " " + x.snapshot(1) + " " + x.role(1));
    }

    // Promise 40
    private static void meanLast() {
        QuorumAlmanac x = Play.settled();
        Check.due("at first", 0.0, () -> new QuorumAlmanac(7).meanLast());
        Check.due("three logs of one", 0.6, () -> x.meanLast());
        x.write(0, 1, 1);
        Check.due("one of two", 0.8, () -> x.meanLast());
        x.crash(0);
        Check.due("a node that is down", 0.6, () -> x.meanLast());
        QuorumAlmanac y = Play.alone();
        y.compact(0);
        Check.due("a snapshot", 0.2, () -> y.meanLast());
    }

    // Promise 41
    private static void isSound() {
        Check.due("at first", true, () -> new QuorumAlmanac(7).isSound());
        QuorumAlmanac x = Play.settled();
        Check.due("settled", true, () -> x.isSound());
        x.write(0, 1, 1);
        x.compact(0);
        Check.due("behind a snapshot", true, () -> x.isSound());
        x.crash(0);
        Check.due("behind a crash", true, () -> x.isSound());
    }

    private static void isSoundOverLeaders() {
        // Two leaders of different terms, with different entries at the same index, are sound.
        QuorumAlmanac x = Play.settled();
        x.write(0, 1, 1);
        Play.loseAll(x);
        Play.tickTo(x, 20);
        Play.loseAllBut(x, Play.lastOf(x, 'v', 12));
        x.deliver(x.earliest());
        x.deliver(x.earliest());
        Check.due("two leaders", "l 1 l 2", () -> x.role(0) + " " + x.term(0) + " " + x.role(1) + " " + x.term(1));
        Check.due("with different entries", "w o", () -> x.entryKind(0, 2) + " " + x.entryKind(1, 2));
        Check.due("are sound", true, () -> x.isSound());
    }

    private static void isNotSound() {
        QuorumAlmanac x = Play.twoEntriesAreGone();
        Play.tickTo(x, 20);
        x.deliver(Play.lastOf(x, 'v', 12));
        Play.deliverAll(x);
        Check.due("node 1 leads", "l 4 o", () -> x.role(1) + " " + x.last(1) + " " + x.entryKind(1, 4));
        Check.due("nothing else is known to be committed yet", true, () -> x.isSound());
        Play.syncAll(x);
        Play.deliverAll(x);
        Check.due("another entry 4 is", 4, () -> x.committed(1));
        Check.due("not as the history tells", false, () -> x.isSound());
        Check.due("the history stays", "5 15", () -> x.history() + " " + x.valueByHistory(1));
        x.crash(1);
        Check.due("node 1 knows of nothing but its snapshot now", true, () -> x.isSound());
    }

    private static void readsAreNotSound() {
        QuorumAlmanac x = Play.twoEntriesAreGone();
        Play.tickTo(x, 20);
        x.deliver(Play.lastOf(x, 'v', 12));
        Play.deliverAll(x);
        Play.syncAll(x);
        Play.deliverAll(x);
        Check.due("a read by lease", 13, () -> x.readByLease(1, 1));
        x.crash(1);
        Check.due("of a value that the history has no more", false, () -> x.isSound());
        QuorumAlmanac y = Play.twoEntriesAreGone();
        Play.tickTo(y, 20);
        y.deliver(Play.lastOf(y, 'v', 12));
        Play.deliverAll(y);
        Play.syncAll(y);
        Play.deliverAll(y);
        int read = y.askRead(1, 1);
        Play.deliverAll(y);
        Check.due("a read by round", 13, () -> y.readValue(read));
        y.crash(1);
        y.crash(2);
        Check.due("of a value that the history had ahead of it", false, () -> y.isSound());
        QuorumAlmanac z = Play.twoEntriesAreGone();
        Play.tickTo(z, 20);
        z.deliver(Play.lastOf(z, 'v', 12));
        Play.deliverAll(z);
        Play.syncAll(z);
        Play.deliverAll(z);
        z.write(1, 2, 13);
        z.write(1, 2, 13);
        Play.deliverAll(z);
        z.sync(1);
        z.sync(2);
        int answer = z.earliest();
        int readOfZ = z.askRead(1, 1);
        z.deliver(answer);
        Check.due("a write of this value to another key, while the read waits", "6 w",
            () -> z.history() + " " + z.readState(readOfZ));
        Play.deliverAll(z);
        Check.due("a read by round", 13, () -> z.readValue(readOfZ));
        z.crash(1);
        z.crash(2);
        Check.due("is no help", false, () -> z.isSound());
    }
}
