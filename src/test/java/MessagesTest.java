/** Promises 18 to 24: the messages, and what nodes do as they get them. */
final class MessagesTest {
    public static void main(String[] args) {
        waitingAndEarliest();
        noSuchMessage();
        kindsAndBetween();
        atMostSixty();
        deliverReturns();
        loseAndCopy();
        wishIsHeeded();
        wishOfALogBehind();
        wishIsNotHeeded();
        wishAndLease();
        answersOfGreaterTerms();
        leaderByMajority();
        appendIsTaken();
        appendOfFour();
        appendOfALowerTerm();
        appendMakesAFollower();
        appendIsRefused();
        appendCutsOff();
        appendTellsWhatIsCommitted();
        agreementIsKept();
        agreementOfThisTerm();
        agreementOfThisLeader();
        syncedAndAgreed();
        copiesAreWhole();
        snapshotIsSent();
        snapshotIsNotNeeded();
        snapshotInPlaceOfAll();
        snapshotInPlaceOfAChange();
        snapshotOfOtherMembers();
        commitOfOwnTermAlone();
        Check.end();
    }

    // Promises 18 and 19
    private static void waitingAndEarliest() {
        QuorumAlmanac x = Play.candidate();
        Check.due("two wishes", 2, () -> x.waiting());
        Check.due("the earliest", 0, () -> x.earliest());
        x.deliver(0);
        Check.due("one wish and an answer", 2, () -> x.waiting());
        Check.due("the earliest now", 1, () -> x.earliest());
        x.lose(1);
        Check.due("the earliest now", 2, () -> x.earliest());
        x.lose(2);
        Check.due("none", 0, () -> x.waiting());
        Check.noElement("earliest of none", () -> x.earliest());
    }

    private static void noSuchMessage() {
        QuorumAlmanac x = Play.candidate();
        x.lose(0);
        String before = Play.told(x);
        for (int message : new int[] {-1, 0, 2, 60, Integer.MAX_VALUE, Integer.MIN_VALUE}) {
            Check.noElement("kindOf", () -> x.kindOf(message));
            Check.noElement("between", () -> x.between(message));
            Check.noElement("deliver", () -> x.deliver(message));
            Check.noElement("lose", () -> x.lose(message));
            Check.noElement("copy", () -> x.copy(message));
        }
        Check.due("nothing is changed", before, () -> Play.told(x));
    }

    // Promises 20 and 21
    private static void kindsAndBetween() {
        QuorumAlmanac x = Play.candidate();
        Check.due("a wish", "v 1", () -> x.kindOf(0) + " " + x.between(0));
        Check.due("another", "v 2", () -> x.kindOf(1) + " " + x.between(1));
        x.deliver(0);
        Check.due("its answer", "y 10", () -> x.kindOf(2) + " " + x.between(2));
        x.deliver(2);
        Check.due("an append", "a 2", () -> x.kindOf(4) + " " + x.between(4));
        x.deliver(4);
        Check.due("its answer", "k 20", () -> x.kindOf(5) + " " + x.between(5));
        QuorumAlmanac y = Play.behindASnapshot();
        Check.due("a snapshot", "s 2", () -> y.kindOf(y.earliest()) + " " + y.between(y.earliest()));
    }

    private static void atMostSixty() {
        QuorumAlmanac x = Play.candidate();
        for (int i = 0; i < 58; i++) {
            x.copy(1);
        }
        Check.due("60 wait", 60, () -> x.waiting());
        Check.due("a copy more", 60, () -> x.copy(59));
        Check.due("60 wait still", 60, () -> x.waiting());
        Check.noElement("the earliest is lost", () -> x.kindOf(0));
        Check.due("the earliest now", 1, () -> x.earliest());
        Check.due("a copy of the earliest", 61, () -> x.copy(1));
        Check.noElement("which is lost by this", () -> x.kindOf(1));
        Check.due("the copy is as it was", "v 2", () -> x.kindOf(61) + " " + x.between(61));
        Check.due("one is taken and one is sent", 1, () -> x.deliver(61));
        Check.due("60 wait still", 60, () -> x.waiting());
        Check.due("none is lost by this", 2, () -> x.earliest());
        x.deliver(62);
        Check.due("one is taken, two are sent: one is lost", "60 3", () -> x.waiting() + " " + x.earliest());
    }

    // Promise 22
    private static void deliverReturns() {
        QuorumAlmanac x = Play.candidate();
        Check.due("a wish", 1, () -> x.deliver(0));
        Check.due("a vote that is enough", 2, () -> x.deliver(2));
        Check.noElement("deliver again", () -> x.deliver(2));
        Check.due("an append", 1, () -> x.deliver(3));
        Check.due("an answer", 0, () -> x.deliver(5));
        x.crash(2);
        Check.due("to a node that is down", 0, () -> x.deliver(4));
        Check.noElement("it is lost", () -> x.kindOf(4));
        Check.due("nor counted", 4L, () -> x.delivered());
    }

    // Promises 23 and 24
    private static void loseAndCopy() {
        QuorumAlmanac x = Play.candidate();
        Check.due("lose", 1, () -> x.lose(0));
        Check.noElement("lose again", () -> x.lose(0));
        Check.due("copy", 2, () -> x.copy(1));
        Check.due("the copy is one more", 2, () -> x.waiting());
        Check.due("and alike", "v 2", () -> x.kindOf(2) + " " + x.between(2));
        Check.due("lose", 1, () -> x.lose(1));
        Check.due("the copy works", 1, () -> x.deliver(2));
        Check.due("the vote", 0, () -> x.vote(2));
        x.deliver(3);
        int append = x.earliest();
        int twin = x.copy(append);
        x.crash(0);
        Check.due("a copied append", 1, () -> x.deliver(twin));
        Check.due("it holds the entry", 'o', () -> x.entryKind(1, 1));
        Check.due("and its term", 1, () -> x.term(1));
        Check.due("the same append again", 1, () -> x.deliver(append));
        Check.due("adds nothing", 1, () -> x.last(1));
    }

    // Wishes
    private static void wishIsHeeded() {
        QuorumAlmanac x = Play.candidate();
        Play.tickTo(x, 11);
        Check.due("node 1 is a candidate too", 'c', () -> x.role(1));
        Check.due("a wish of the same term", 1, () -> x.deliver(0));
        Check.due("it has voted for itself", 1, () -> x.vote(1));
        Check.due("the answer is no", 'c', () -> {
            x.deliver(x.earliest() + 3);
            return x.role(0);
        });
        int twin = x.copy(1);
        x.deliver(1);
        Check.due("a vote for another", 0, () -> x.vote(2));
        Check.due("asked again by the same one", 1, () -> x.deliver(twin));
        Check.due("it votes again", 0, () -> x.vote(2));
        x.deliver(3);
        Check.due("the wish of the other one", 0, () -> x.vote(2));
        Play.tickTo(x, 20);
        Check.due("a vote is hearing: no candidate 9 ticks later", 'f', () -> x.role(2));
        Play.tickTo(x, 22);
        x.tick(0);
        Check.due("nor 11 ticks later", 'f', () -> x.role(2));
        x.tick(2);
        Check.due("but 12", 'c', () -> x.role(2));
    }

    private static void wishOfALogBehind() {
        QuorumAlmanac y = Play.elected();
        y.sync(0);
        Play.loseAll(y);
        y.crash(0);
        Play.tickTo(y, 20);
        Check.due("node 1 stands at 20", 'c', () -> y.role(1));
        y.start(0);
        Play.tickTo(y, 30);
        Play.loseAll(y);
        y.tick(1);
        Check.due("node 1 stands in term 3", 3, () -> y.term(1));
        int wish = y.earliest();
        Check.due("its wish to node 0", 10, () -> y.between(wish));
        Check.due("node 0 does not count as calm any more", 1, () -> y.deliver(wish));
        Check.due("it takes the term", 3, () -> y.term(0));
        Check.due("it is a follower", 'f', () -> y.role(0));
        Check.noElement("but votes for no log behind its own", () -> y.vote(0));
        y.deliver(y.earliest());
        Check.due("a log that is as empty", 1, () -> y.vote(2));
    }

    private static void wishIsNotHeeded() {
        QuorumAlmanac x = Play.elected();
        x.sync(0);
        x.deliver(3);
        Play.loseAll(x);
        // Node 2 has got no append: it stands at 12, and asks node 1, which got one at its clock 9.
        x.crash(0);
        Play.tickTo(x, 12);
        Check.due("node 2 stands", 'c', () -> x.role(2));
        Check.due("its wish to node 1", 21, () -> x.between(x.earliest() + 1));
        Play.tickTo(x, 18);
        int twin = x.copy(x.earliest() + 1);
        Check.due("9 ticks behind an append", 0, () -> x.deliver(twin - 1));
        Check.due("nothing is done", "1 0", () -> x.term(1) + " " + x.vote(1));
        Play.tickTo(x, 19);
        Check.due("10 ticks behind an append", 1, () -> x.deliver(twin));
        Check.due("the term is the same, and the vote is for another", 0, () -> x.vote(1));
    }

    private static void wishAndLease() {
        QuorumAlmanac x = new QuorumAlmanac(3);
        for (int node = 2; node < 5; node++) {
            x.crash(node);
        }
        Play.tickTo(x, 11);
        // Both stand in term 1 now; node 1 has its wish wait, and becomes a follower.
        int wish = 1;
        Check.due("the wish of node 1", 10, () -> x.between(wish));
        Play.tickTo(x, 20);
        Check.due("node 0 stands in term 2", 2, () -> x.term(0));
        x.deliver(2);
        x.deliver(3);
        Check.due("node 0 leads", 'l', () -> x.role(0));
        x.sync(0);
        x.deliver(4);
        x.sync(1);
        x.deliver(6);
        Check.due("by a lease", true, () -> x.hasLease(0));
        Check.due("a leader with a lease does nothing", 0, () -> x.deliver(wish));
        Check.due("it leads", 'l', () -> x.role(0));

        // Without a lease, a leader of a lower term heeds a wish.
        QuorumAlmanac y = Play.elected();
        Play.loseAll(y);
        Play.tickTo(y, 20);
        Play.loseAll(y);
        Play.tickTo(y, 21);
        Check.due("node 2 stands in term 1", "c 1", () -> y.role(2) + " " + y.term(2));
        Play.loseAll(y);
        Play.tickTo(y, 22);
        Play.loseAll(y);
        for (int clock = 22; clock < 26; clock++) {
            Play.tickTo(y, clock);
            Play.loseAll(y);
        }
        y.crash(2);
        Play.tickTo(y, 31);
        Check.due("node 1 stands in term 3", "c 3", () -> y.role(1) + " " + y.term(1));
        int last = lastOf(y, 'v', 10);
        Check.due("the leader without a lease answers", 1, () -> y.deliver(last));
        Check.due("and is a follower in this term", "f 3", () -> y.role(0) + " " + y.term(0));
    }

    private static int lastOf(QuorumAlmanac x, char kind, int between) {
        return Play.lastOf(x, kind, between);
    }

    // Answers
    private static void answersOfGreaterTerms() {
        QuorumAlmanac x = Play.elected();
        int append = x.copy(3);
        Play.tickTo(x, 20);
        Check.due("node 1 stands in term 2", "c 2", () -> x.role(1) + " " + x.term(1));
        Check.due("an append of a lower term", 1, () -> x.deliver(append));
        int answer = lastOf(x, 'k', 10);
        int twin = x.copy(answer);
        Check.due("it is answered", true, () -> answer >= 0);
        Check.due("an answer with a greater term", 0, () -> x.deliver(answer));
        Check.due("the leader becomes a follower", "f 2", () -> x.role(0) + " " + x.term(0));
        Check.noElement("without a vote", () -> x.vote(0));
        Check.due("the same answer again", 0, () -> x.deliver(twin));
        Check.due("changes nothing", "f 2", () -> x.role(0) + " " + x.term(0));

        // A wish of a lower term is answered with the greater one.
        QuorumAlmanac y = Play.candidate();
        Play.tickTo(y, 22);
        Check.due("nodes 0 and 1 stand in term 2", "2 2", () -> y.term(0) + " " + y.term(1));
        Check.due("the wish of term 1", 1, () -> y.deliver(0));
        Check.due("is not heeded", 1, () -> y.vote(1));
        Play.tickTo(y, 30);
        Check.due("node 0 stands in term 3", 3, () -> y.term(0));
        Check.due("a wish of node 1 of term 2", 20, () -> y.between(wishOf(y, 2, 0)) );
        Check.due("an answer of a greater term", 1, () -> y.deliver(wishOf(y, 2, 0)));
        y.deliver(lastOf(y, 'y', 2));
        Check.due("makes a candidate a follower", "f 3", () -> y.role(2) + " " + y.term(2));
    }

    private static int wishOf(QuorumAlmanac x, int from, int to) {
        return lastOf(x, 'v', 10 * from + to);
    }

    private static void leaderByMajority() {
        QuorumAlmanac x = new QuorumAlmanac(31);
        Play.tickTo(x, 9);
        x.tick(0);
        for (int wish = 0; wish < 4; wish++) {
            x.deliver(wish);
        }
        int twin = x.copy(4);
        x.deliver(4);
        x.deliver(twin);
        Check.due("the same vote twice is one", 'c', () -> x.role(0));
        Check.due("the third of five", 4, () -> x.deliver(5));
        Check.due("is a majority", 'l', () -> x.role(0));
        Check.due("a vote more", 0, () -> x.deliver(6));
        Check.due("begins no term anew", 1, () -> x.last(0));
        QuorumAlmanac y = new QuorumAlmanac(15);
        y.crash(4);
        Play.tickTo(y, 9);
        y.tick(0);
        for (int wish = 0; wish < 3; wish++) {
            y.deliver(wish);
        }
        y.deliver(3);
        Check.due("two of four", 'c', () -> y.role(0));
        y.deliver(4);
        Check.due("three of four", 'l', () -> y.role(0));
    }

    // Appends
    private static void appendIsTaken() {
        QuorumAlmanac x = Play.elected();
        Check.due("an append", 1, () -> x.deliver(4));
        Check.due("its entry", "o 1", () -> x.entryKind(2, 1) + " " + x.entryTerm(2, 1));
        Check.due("not synced", 0, () -> x.synced(2));
        x.deliver(5);
        x.sync(0);
        Check.due("what is not synced is not agreed", 0, () -> x.committed(0));
        x.sync(2);
        x.deliver(6);
        Check.due("what is synced is", 1, () -> x.committed(0));
        Check.due("append is hearing", 'f', () -> {
            Play.tickTo(x, 20);
            return x.role(2);
        });
        x.tick(2);
        Check.due("for 12 ticks of node 2", 'c', () -> x.role(2));
    }

    private static void appendOfFour() {
        QuorumAlmanac x = Play.settled();
        for (int i = 0; i < 6; i++) {
            x.write(0, i, i);
        }
        Play.deliverAll(x);
        Check.due("at most 4 entries from the next index on", 5, () -> x.last(1));
        x.sync(1);
        Play.deliverAll(x);
        x.write(0, 9, 9);
        Play.deliverAll(x);
        Check.due("the rest is sent behind the answer", 8, () -> x.last(1));
        Check.due("not to the one that has not synced", 5, () -> x.last(2));
    }

    private static void appendOfALowerTerm() {
        QuorumAlmanac x = Play.elected();
        x.deliver(3);
        int append = 4;
        Play.loseAllBut(x, append);
        Play.tickTo(x, 21);
        Check.due("node 2 stands in term 2", "c 2", () -> {
            Play.tickTo(x, 24);
            return x.role(2) + " " + x.term(2);
        });
        Check.due("an append of a lower term", 1, () -> x.deliver(append));
        Check.due("adds nothing", 0, () -> x.last(2));
        Check.due("makes no follower", 'c', () -> x.role(2));
    }

    private static void appendMakesAFollower() {
        QuorumAlmanac x = Play.elected();
        Play.tickTo(x, 12);
        Check.due("node 2 stands in the same term", "c 1", () -> x.role(2) + " " + x.term(2));
        x.deliver(4);
        Check.due("an append of its term", "f 1 2", () -> x.role(2) + " " + x.term(2) + " " + x.vote(2));
    }

    private static void appendIsRefused() {
        appendLeavesAGap();
        appendBehindAnotherTerm();
        appendAheadOfTheSnapshot();
    }

    private static void appendLeavesAGap() {
        QuorumAlmanac x = Play.settled();
        for (int i = 0; i < 3; i++) {
            x.write(0, 1, i);
        }
        x.deliver(lastOf(x, 'a', 1));
        x.sync(1);
        Play.loseAll(x);
        x.crash(0);
        Play.tickTo(x, 20);
        Play.voteFor(x, 1, 2);
        Check.due("4 entries and an 'o'", "5 1", () -> x.last(1) + " " + x.last(2));
        x.deliver(lastOf(x, 'a', 12));
        Check.due("the append of the 'o' is refused", 1, () -> x.last(2));
        Check.due("one of 12 messages", 1.0f / 12.0f, () -> x.refusedShare());
        x.deliver(lastOf(x, 'k', 21));
        x.write(1, 1, 9);
        x.deliver(lastOf(x, 'a', 12));
        Check.due("four from behind its last entry on", 5, () -> x.last(2));
    }

    private static void appendBehindAnotherTerm() {
        QuorumAlmanac x = Play.settled();
        for (int i = 0; i < 3; i++) {
            x.write(0, 1, i);
        }
        x.sync(0);
        Play.loseAll(x);
        x.crash(0);
        Play.tickTo(x, 20);
        Play.voteFor(x, 1, 2);
        x.write(1, 1, 7);
        x.write(1, 1, 8);
        x.deliver(lastOf(x, 'a', 12));
        x.sync(2);
        Check.due("an 'o' and two writes", "4 2", () -> x.last(2) + " " + x.entryTerm(2, 4));
        Play.loseAll(x);
        x.crash(1);
        x.start(0);
        Play.tickTo(x, 32);
        Play.voteFor(x, 2, 0);
        Check.due("node 0 has 4 entries of term 1", "4 1", () -> x.last(0) + " " + x.entryTerm(0, 4));
        for (int i = 0; i < 3; i++) {
            x.deliver(lastOf(x, 'a', 20));
            Check.due("nothing is cut as it is refused", "4 1", () -> x.last(0) + " " + x.entryTerm(0, 4));
            x.deliver(lastOf(x, 'k', 2));
            x.write(2, 1, 10 + i);
        }
        Check.due("3 refused of 19", 3.0f / 19.0f, () -> x.refusedShare());
        x.deliver(lastOf(x, 'a', 20));
        Check.due("behind the entry that fits", "5 2 3",
            () -> x.last(0) + " " + x.entryTerm(0, 2) + " " + x.entryTerm(0, 5));
        Check.due("what was synced is no more", 1, () -> x.synced(0));
        Check.due("logs match", true, () -> x.isSound());
    }

    private static void appendAheadOfTheSnapshot() {
        QuorumAlmanac x = Play.settled();
        x.write(0, 1, 1);
        x.deliver(lastOf(x, 'a', 2));
        x.sync(2);
        x.sync(0);
        x.deliver(lastOf(x, 'k', 20));
        Check.due("committed by node 2", 2, () -> x.committed(0));
        x.write(0, 1, 2);
        x.deliver(lastOf(x, 'a', 1));
        Play.loseAll(x);
        Check.due("node 1 takes a snapshot of 2", 2, () -> x.compact(1));
        x.write(0, 1, 3);
        Check.due("an append ahead of the snapshot", 1, () -> x.deliver(lastOf(x, 'a', 1)));
        Check.due("is refused", 1.0f / 12.0f, () -> x.refusedShare());
        x.deliver(lastOf(x, 'k', 10));
        x.write(0, 1, 4);
        x.deliver(lastOf(x, 'a', 1));
        Check.due("behind the snapshot", 5, () -> x.last(1));
    }

    private static void appendCutsOff() {
        QuorumAlmanac x = Play.elected();
        x.write(0, 1, 1);
        x.write(0, 1, 2);
        x.sync(0);
        Play.loseAll(x);
        x.crash(0);
        // Node 1 leads term 2 by the vote of node 2, and its entries take the place of those of node 0.
        Play.tickTo(x, 20);
        Check.due("node 1 stands", 2, () -> x.term(1));
        Play.tickTo(x, 21);
        x.deliver(wishOf(x, 1, 2));
        x.deliver(lastOf(x, 'y', 21));
        Check.due("node 1 leads", "l 2", () -> x.role(1) + " " + x.term(1));
        Play.loseAll(x);
        x.start(0);
        x.write(1, 2, 22);
        Check.due("three entries of term 1", "3 1 3", () -> x.last(0) + " " + x.entryTerm(0, 3) + " " + x.synced(0));
        x.deliver(lastOf(x, 'a', 10));
        Check.due("two of term 2", "2 2 w", () -> x.last(0) + " " + x.entryTerm(0, 1) + " " + x.entryKind(0, 2));
        Check.due("none of which is synced", 0, () -> x.synced(0));
        Check.due("logs match", true, () -> x.isSound());
    }

    private static void appendTellsWhatIsCommitted() {
        QuorumAlmanac x = Play.settled();
        Check.due("not known yet", 0, () -> x.committed(1));
        x.write(0, 8, 88);
        Play.deliverAll(x);
        Check.due("known by the next append", 1, () -> x.committed(1));
        x.sync(0);
        x.sync(1);
        x.deliver(x.earliest());
        Check.due("the leader knows of 2", 2, () -> x.committed(0));
        // Node 2 has lost entry 2; an append of no more than that tells it of nothing beyond.
        x.crash(2);
        x.start(2);
        for (int i = 0; i < 5; i++) {
            x.write(0, 8, i);
        }
        int first = lastOf(x, 'a', 2) - 8;
        Check.due("an append of one entry", 2, () -> x.between(first));
        x.deliver(first);
        Check.due("whichever is less", "3 2", () -> x.last(2) + " " + x.committed(2));
        Check.due("applied at once", 88, () -> x.readStale(2, 8));
    }

    private static void agreementIsKept() {
        QuorumAlmanac x = Play.settled();
        x.write(0, 1, 1);
        int early = lastOf(x, 'a', 1);
        x.write(0, 1, 2);
        int late = lastOf(x, 'a', 1);
        x.deliver(late);
        x.deliver(early);
        Play.loseAll(x);
        Check.due("both entries are there", 3, () -> x.last(1));
        x.sync(0);
        x.sync(1);
        x.deliver(x.earliest());
        Check.due("an earlier append takes back nothing", 3, () -> x.committed(0));
    }

    private static void agreementOfThisTerm() {
        QuorumAlmanac x = Play.fiveSettled();
        x.write(0, 1, 1);
        x.write(0, 1, 2);
        x.deliver(lastOf(x, 'a', 2));
        x.sync(2);
        Check.due("node 2 agrees with node 0 up to 3", "3 3", () -> x.last(2) + " " + x.synced(2));
        Play.loseAll(x);
        x.crash(0);
        Play.tickTo(x, 20);
        x.deliver(wishOf(x, 1, 3));
        x.deliver(lastOf(x, 'y', 31));
        Play.voteFor(x, 1, 4);
        x.write(1, 2, 2);
        x.deliver(lastOf(x, 'a', 13));
        x.deliver(lastOf(x, 'a', 14));
        Check.due("nodes 3 and 4 have entries of term 2", "3 2 3", () -> x.last(3) + " " + x.entryTerm(4, 3) + " "
            + x.last(4));
        Play.loseAll(x);
        x.crash(1);
        x.start(0);
        x.start(1);
        Play.tickTo(x, 32);
        x.tick(3);
        Check.due("node 3 stands", 'c', () -> x.role(3));
        // By numbers, as an object is promised for 512 calls: the wishes to 0, 1, 2 and 4 are ahead of this copy.
        int copy = x.copy(x.earliest());
        x.deliver(copy - 1);
        x.deliver(copy + 1);
        x.deliver(copy - 4);
        x.deliver(copy + 2);
        Check.due("node 3 leads; its append to node 2", "l a 32",
            () -> x.role(3) + " " + x.kindOf(copy + 5) + " " + x.between(copy + 5));
        x.deliver(copy + 5);
        Check.due("node 2 refuses", "3 1", () -> x.last(2) + " " + x.entryTerm(2, 3));
        x.deliver(copy + 7);
        x.sync(2);
        x.deliver(copy + 8);
        x.write(3, 1, 3);
        x.deliver(copy + 11);
        x.deliver(copy + 13);
        x.write(3, 1, 4);
        Check.due("another append to node 2", "a 32", () -> x.kindOf(copy + 16) + " " + x.between(copy + 16));
        x.deliver(copy + 16);
        Check.due("it agrees to nothing by what another term told it", "5 2",
            () -> x.last(2) + " " + x.entryTerm(2, 3));
    }

    private static void agreementOfThisLeader() {
        QuorumAlmanac x = Play.fiveSettled();
        for (int i = 0; i < 4; i++) {
            x.write(0, 1, i);
        }
        x.deliver(lastOf(x, 'a', 1));
        x.sync(1);
        x.deliver(lastOf(x, 'k', 10));
        Check.due("node 1 agrees up to 5, node 0 has not synced", "5 1", () -> x.synced(1) + " " + x.synced(0));
        Play.loseAll(x);
        x.crash(0);
        x.start(0);
        Play.tickTo(x, 19);
        x.tick(0);
        x.deliver(wishOf(x, 0, 2));
        x.deliver(lastOf(x, 'y', 20));
        Play.voteFor(x, 0, 3);
        Check.due("node 0 leads again, with another entry 2", "2 2", () -> x.last(0) + " " + x.entryTerm(0, 2));
        x.sync(0);
        x.deliver(lastOf(x, 'a', 2));
        x.sync(2);
        x.deliver(lastOf(x, 'k', 20));
        Check.due("to which two of five agree", 0, () -> x.committed(0));
        x.deliver(lastOf(x, 'a', 3));
        x.sync(3);
        x.deliver(lastOf(x, 'k', 30));
        Check.due("and now three", 2, () -> x.committed(0));
    }

    private static void syncedAndAgreed() {
        // What a follower has synced of its own is not what it agrees to.
        QuorumAlmanac x = Play.settled();
        x.write(0, 1, 1);
        x.write(0, 1, 2);
        x.deliver(lastOf(x, 'a', 2));
        x.sync(2);
        x.crash(0);
        x.start(0);
        Check.due("node 0 has lost entries that node 2 has", "1 3", () -> x.last(0) + " " + x.last(2));
        Play.loseAll(x);
        Play.tickTo(x, 19);
        x.tick(0);
        Play.voteFor(x, 0, 1);
        x.sync(0);
        x.deliver(lastOf(x, 'a', 1));
        x.deliver(lastOf(x, 'k', 10));
        x.sync(1);
        x.deliver(lastOf(x, 'k', 10));
        Check.due("by node 1", 2, () -> x.committed(0));
        Check.due("an append of one entry cuts off two", 2, () -> {
            x.deliver(lastOf(x, 'a', 2));
            return x.last(2);
        });
        Check.due("none of which is synced any more", 1, () -> x.synced(2));
    }

    private static void copiesAreWhole() {
        // A copied append tells what is committed, and fits only where the append does.
        QuorumAlmanac x = Play.settled();
        x.write(0, 1, 1);
        int append = x.copy(lastOf(x, 'a', 1));
        x.lose(x.earliest());
        x.deliver(append);
        Check.due("its entry and what is committed", "2 1", () -> x.last(1) + " " + x.committed(1));
        // A copied answer tells the index and the round.
        x.sync(1);
        int answer = x.copy(lastOf(x, 'k', 10));
        Play.loseAllBut(x, answer);
        x.sync(0);
        x.deliver(answer);
        Check.due("its index", 2, () -> x.committed(0));
        x.askRead(0, 1);
        x.deliver(lastOf(x, 'a', 1));
        int round = x.copy(lastOf(x, 'k', 10));
        Play.loseAllBut(x, round);
        x.deliver(round);
        Check.due("its round", 'r', () -> x.readState(0));
        // A copied wish is judged as the wish is, and its copied answer counts.
        QuorumAlmanac y = Play.settled();
        y.crash(0);
        Play.tickTo(y, 20);
        int wish = y.copy(wishOf(y, 1, 2));
        y.lose(wishOf(y, 1, 2) - 1);
        y.deliver(wish);
        Check.due("a vote", 1, () -> y.vote(2));
        int vote = y.copy(lastOf(y, 'y', 21));
        Play.loseAllBut(y, vote);
        y.deliver(vote);
        Check.due("counts", 'l', () -> y.role(1));
        // So do a copied refusal and a copied answer of a term.
        QuorumAlmanac z = Play.settled();
        for (int i = 0; i < 3; i++) {
            z.write(0, 1, i);
        }
        z.deliver(lastOf(z, 'a', 1));
        z.sync(1);
        Play.loseAll(z);
        z.crash(0);
        Play.tickTo(z, 20);
        Play.voteFor(z, 1, 2);
        z.deliver(lastOf(z, 'a', 12));
        int refusal = z.copy(lastOf(z, 'k', 21));
        Play.loseAllBut(z, refusal);
        z.deliver(refusal);
        z.write(1, 1, 9);
        z.deliver(lastOf(z, 'a', 12));
        Check.due("from behind the hint on", 5, () -> z.last(2));
    }

    // Snapshots
    private static void snapshotIsSent() {
        QuorumAlmanac x = Play.behindASnapshot();
        Check.due("the snapshot of the leader", 2, () -> x.snapshot(0));
        Check.due("the log of node 2", 0, () -> x.last(2));
        Check.due("it answers", 1, () -> x.deliver(x.earliest()));
        Check.due("its log", "2 2 2 2",
            () -> x.last(2) + " " + x.synced(2) + " " + x.committed(2) + " " + x.snapshot(2));
        Check.due("its store", 66, () -> x.readStale(2, 6));
        Check.due("the answer", "k 20", () -> x.kindOf(x.earliest()) + " " + x.between(x.earliest()));
        x.deliver(x.earliest());
        x.write(0, 6, 68);
        x.deliver(lastOf(x, 'a', 2));
        Check.due("what comes behind the snapshot", 4, () -> x.last(2));
        Check.due("all is sound", true, () -> x.isSound());
    }

    private static void snapshotIsNotNeeded() {
        QuorumAlmanac x = Play.behindASnapshot();
        int snapshot = x.earliest();
        int twin = x.copy(snapshot);
        x.deliver(snapshot);
        x.deliver(x.earliest() + 1);
        x.write(0, 6, 69);
        x.deliver(lastOf(x, 'a', 2));
        Check.due("entries behind the snapshot", 4, () -> x.last(2));
        Check.due("the snapshot again is answered", 1, () -> x.deliver(twin));
        Check.due("and changes nothing", "4 2", () -> x.last(2) + " " + x.committed(2));
    }

    private static void snapshotInPlaceOfAll() {
        // A snapshot beyond what a node knows to be committed takes the place of its whole log.
        QuorumAlmanac x = Play.elected();
        x.write(0, 3, 31);
        x.write(0, 3, 32);
        int append = lastOf(x, 'a', 2);
        Play.loseAllBut(x, append);
        x.tick(1);
        x.tick(2);
        x.sync(0);
        x.tick(0);
        x.tick(0);
        x.tick(1);
        x.tick(2);
        x.tick(0);
        x.deliver(lastOf(x, 'a', 1));
        x.sync(1);
        x.deliver(lastOf(x, 'k', 10));
        Check.due("node 0 and 1 have committed", 3, () -> x.committed(0));
        x.compact(0);
        x.write(0, 3, 33);
        int snapshot = lastOf(x, 's', 2);
        Check.due("a snapshot is sent", true, () -> snapshot >= 0);
        x.deliver(append);
        Check.due("the log ahead of it", "3 0", () -> x.last(2) + " " + x.committed(2));
        x.deliver(snapshot);
        Check.due("the log is that of the snapshot", "3 3 3",
            () -> x.last(2) + " " + x.snapshot(2) + " " + x.committed(2));
        Check.noElement("no entry is left", () -> x.entryKind(2, 3));
    }

    private static void snapshotInPlaceOfAChange() {
        QuorumAlmanac x = Play.settled();
        x.write(0, 1, 2);
        x.write(0, 1, 3);
        int toTwo = lastOf(x, 'a', 2);
        x.write(0, 1, 4);
        x.change(0, 7);
        int toOne = lastOf(x, 'a', 1);
        x.sync(0);
        x.deliver(toTwo);
        x.sync(2);
        x.deliver(lastOf(x, 'k', 20));
        x.compact(0);
        x.askRead(0, 1);
        int snapshot = lastOf(x, 's', 1);
        x.deliver(toOne);
        Check.due("a 'j' at the index 5", "5 j", () -> x.last(1) + " " + x.entryKind(1, 5));
        x.deliver(snapshot);
        Check.due("is gone", 3, () -> x.last(1));
        Play.loseAll(x);
        x.crash(0);
        Play.tickTo(x, 20);
        Play.voteFor(x, 1, 2);
        Play.deliverAll(x);
        Play.syncAll(x);
        Play.deliverAll(x);
        Check.due("node 1 knows its 'o' to be committed", 4, () -> x.committed(1));
        Check.due("and of no change", 5, () -> x.change(1, 7));
    }

    private static void snapshotOfOtherMembers() {
        QuorumAlmanac x = Play.settled();
        x.change(0, 7 + 8);
        x.deliver(lastOf(x, 'a', 1));
        x.sync(1);
        x.sync(0);
        x.start(3);
        x.deliver(lastOf(x, 'a', 3));
        x.sync(3);
        x.deliver(lastOf(x, 'k', 10));
        x.deliver(lastOf(x, 'k', 30));
        Check.due("the 'j' is committed", "2 3", () -> x.committed(0) + " " + x.last(0));
        x.compact(0);
        Play.loseAll(x);
        x.write(0, 1, 1);
        Check.due("a snapshot", "s 7", () -> x.kindOf(x.earliest() + 1) + " " + x.members(2));
        x.deliver(x.earliest() + 1);
        Check.due("its members", "2 15", () -> x.snapshot(2) + " " + x.members(2));
        x.deliver(lastOf(x, 'k', 20));
        x.write(0, 1, 2);
        x.deliver(lastOf(x, 'a', 2));
        Check.due("those of the 'n' behind it", "5 15", () -> x.last(2) + " " + x.members(2));
        x.crash(2);
        x.start(2);
        Check.due("and of the snapshot again", "2 15", () -> x.last(2) + " " + x.members(2));
        Check.due("all is sound", true, () -> x.isSound());
    }

    private static void commitOfOwnTermAlone() {
        // An entry of an earlier term is committed by one of the leader's own behind it, not by itself.
        QuorumAlmanac x = Play.elected();
        x.deliver(3);
        x.sync(1);
        Play.loseAll(x);
        x.crash(0);
        Play.tickTo(x, 20);
        Check.due("node 1 stands", "c 2", () -> x.role(1) + " " + x.term(1));
        Play.tickTo(x, 21);
        x.deliver(wishOf(x, 1, 2));
        x.deliver(lastOf(x, 'y', 21));
        Check.due("node 1 leads", "l 2", () -> x.role(1) + " " + x.last(1));
        Check.due("the next index is ahead of its 'o'", "0", () -> {
            x.deliver(lastOf(x, 'a', 12));
            return x.last(2);
        });
        Check.due("it was refused", true, () -> x.refusedShare() > 0);
        x.deliver(lastOf(x, 'k', 21));
        x.write(1, 1, 1);
        x.deliver(lastOf(x, 'a', 12));
        Check.due("behind the hint", 3, () -> x.last(2));
        x.sync(2);
        x.deliver(lastOf(x, 'k', 21));
        Check.due("its own entries are not synced", 0, () -> x.committed(1));
        x.sync(1);
        Check.due("its own and all ahead of them", 3, () -> x.committed(1));
        Check.due("the history", 3, () -> x.history());
    }
}
