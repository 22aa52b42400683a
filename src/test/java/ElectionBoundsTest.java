/** The bounds of clocks and elections: the last tick, entry or vote on this side, and the first one beyond. */
final class ElectionBoundsTest {
    public static void main(String[] args) {
        twoAheadOfAnother();
        greatestClockAtAStart();
        tenAndItsNumber();
        tenAndItsNumberBehindAStart();
        tenAndItsNumberOrMore();
        heardByAVote();
        notHeardByARefusedVote();
        heardByAnAppend();
        heardByARefusedAppend();
        heardByASnapshot();
        notHeardByALowerTerm();
        neverWithoutBeingAMember();
        calmBehindARefusedAppend();
        calmBehindASnapshot();
        notCalmBehindAVote();
        notCalmBehindALowerTerm();
        leaderWhoseLeaseRunsOut();
        wishesByTheIndex();
        wishesByTheTerm();
        wishOfTheSameTerm();
        wishOfALowerTerm();
        majoritiesOfVotes();
        votesOfAnotherTerm();
        votesBehindACrash();
        Check.end();
    }

    // Promise 2, "more than 2 ahead of that of another node that runs"
    private static void twoAheadOfAnother() {
        for (int i = 0; i < 25; i++) {
            int slow = i / 5;
            int fast = i % 5;
            if (slow == fast) {
                continue;
            }
            String of = " of node " + fast + ", held back by " + slow;
            QuorumAlmanac x = new QuorumAlmanac(31);
            x.tick(fast);
            Check.due("2 ahead" + of, 2, () -> x.tick(fast));
            for (int node = 0; node < 5; node++) {
                if (node != slow && node != fast) {
                    x.tick(node);
                }
            }
            Check.state("3 ahead" + of, () -> x.tick(fast));
            x.crash(slow);
            Check.due("3 ahead of one that is down", 3, () -> x.tick(fast));
            x.start(slow);
            Check.due("a clock as it is started", 3, () -> x.clock(slow));
        }
    }

    // Promise 5, "the greatest clock of its own and of all that run"
    private static void greatestClockAtAStart() {
        for (int i = 0; i < 5; i++) {
            int top = i;
            int down = (i + 1) % 5;
            QuorumAlmanac x = new QuorumAlmanac(31);
            x.crash(down);
            Play.tickTo(x, 3);
            Play.tickOne(x, top, 2);
            Check.due("the greatest of all that run", 5, () -> x.start(down));
            Check.due("the others keep theirs", 3, () -> x.clock((top + 2) % 5));
        }
        QuorumAlmanac y = new QuorumAlmanac(31);
        Play.crashAllBut(y, 1);
        Play.tickOne(y, 0, 5);
        y.crash(0);
        Check.due("not of one that is down", 0, () -> y.start(1));
        y.tick(1);
        Check.due("its own", 5, () -> y.start(0));
        Check.due("not less than that", 1, () -> y.clock(1));
        Check.state("4 ahead of the other", () -> y.tick(0));
    }

    // Promise 2, "10 plus its number or more ahead of where it has heard last"; "became a candidate"
    private static void tenAndItsNumber() {
        for (int i = 0; i < 5; i++) {
            int node = i;
            QuorumAlmanac x = new QuorumAlmanac(31);
            Play.crashAllBut(x, 1 << node);
            Play.tickOne(x, node, 9 + node);
            Check.due("a tick ahead of " + (10 + node), "f 0", () -> x.role(node) + " " + x.term(node));
            x.tick(node);
            Check.due(10 + node + " ticks", "c 1", () -> x.role(node) + " " + x.term(node));
            Play.tickOne(x, node, 9 + node);
            Check.due("a tick ahead of so many more", "c 1", () -> x.role(node) + " " + x.term(node));
            x.tick(node);
            Check.due("so many more", "c 2", () -> x.role(node) + " " + x.term(node));
        }
    }

    private static void tenAndItsNumberBehindAStart() {
        for (int i = 0; i < 5; i++) {
            int node = i;
            QuorumAlmanac x = new QuorumAlmanac(31);
            Play.crashAllBut(x, 1 << node);
            Play.tickOne(x, node, 4);
            x.crash(node);
            x.start(node);
            Play.tickOne(x, node, 9 + node);
            Check.due("a tick ahead of " + (10 + node) + " behind a start", 'f', () -> x.role(node));
            x.tick(node);
            Check.due(10 + node + " ticks behind a start", 'c', () -> x.role(node));
        }
    }

    private static void tenAndItsNumberOrMore() {
        QuorumAlmanac x = Play.elected();
        x.sync(0);
        Play.loseAll(x);
        Play.tickTo(x, 20);
        Check.due("node 1 stands by an empty log", "c 2 0", () -> x.role(1) + " " + x.term(1) + " " + x.last(1));
        x.deliver(Play.lastOf(x, 'v', 10));
        Check.due("a leader that stood 10 ticks ago is none any more", "f 2", () -> x.role(0) + " " + x.term(0));
        Check.noElement("and has not voted", () -> x.vote(0));
        x.tick(0);
        Check.due("11 ticks behind where it heard, it is a candidate", "c 3 21",
            () -> x.role(0) + " " + x.term(0) + " " + x.clock(0));
    }

    /** Lets a node that heard at its clock tick up to where it stands, all others being down. */
    private static void standsBehind(QuorumAlmanac x, int node, int heard) {
        Play.crashAllBut(x, 1 << node);
        Play.tickOne(x, node, heard + 9 + node - x.clock(node));
        Check.due("a tick ahead of " + (10 + node) + " behind " + heard, 'f', () -> x.role(node));
        x.tick(node);
        Check.due(10 + node + " behind " + heard, 'c', () -> x.role(node));
    }

    // "voted for another node"
    private static void heardByAVote() {
        for (int i = 1; i < 5; i++) {
            int voter = i;
            QuorumAlmanac x = new QuorumAlmanac(31);
            Play.tickTo(x, 9);
            x.tick(0);
            x.deliver(voter - 1);
            Check.due("a vote", 0, () -> x.vote(voter));
            standsBehind(x, voter, 9);
        }
    }

    private static void notHeardByARefusedVote() {
        QuorumAlmanac x = Play.candidate();
        Play.tickTo(x, 14);
        Check.due("nodes 1 and 2 stand for themselves", "c c", () -> x.role(1) + " " + x.role(2));
        Check.due("the wish of node 0", 1, () -> x.deliver(0));
        Check.due("node 1 votes for itself still", 1, () -> x.vote(1));
        Play.crashAllBut(x, 2);
        Play.tickOne(x, 1, 7);
        Check.due("10 behind where it became a candidate", 1, () -> x.term(1));
        x.tick(1);
        Check.due("11 behind that", 2, () -> x.term(1));
    }

    // "got an append"
    private static void heardByAnAppend() {
        QuorumAlmanac x = Play.settled();
        Play.tickTo(x, 13);
        x.deliver(Play.lastOf(x, 'a', 1));
        Check.due("an append at the clock 13", 13, () -> x.clock(1));
        standsBehind(x, 1, 13);
        QuorumAlmanac y = Play.settled();
        Play.tickTo(y, 13);
        y.deliver(Play.lastOf(y, 'a', 2));
        standsBehind(y, 2, 13);
    }

    /** Node 1 leads term 2 with an entry that node 2 has not; the append behind it waits alone, at the clock 20. */
    private static QuorumAlmanac appendWithAGap() {
        QuorumAlmanac x = Play.elected();
        x.deliver(3);
        Play.loseAll(x);
        x.crash(0);
        Play.tickTo(x, 20);
        Play.voteFor(x, 1, 2);
        Play.loseAllBut(x, Play.lastOf(x, 'a', 12));
        Play.tickTo(x, 22);
        return x;
    }

    private static void heardByARefusedAppend() {
        QuorumAlmanac x = appendWithAGap();
        Check.due("an append", 1, () -> x.deliver(x.earliest()));
        Check.due("is refused", "0 true", () -> x.last(2) + " " + (x.refusedShare() > 0));
        standsBehind(x, 2, 22);
    }

    // "or a snapshot"
    private static void heardByASnapshot() {
        QuorumAlmanac x = Play.behindASnapshot();
        Play.tickTo(x, 11);
        x.deliver(x.earliest());
        Check.due("a snapshot at the clock 11", "2 11", () -> x.snapshot(2) + " " + x.clock(2));
        standsBehind(x, 2, 11);
    }

    /** Node 2 has voted for node 1 in term 2 at its clock 20; an append of term 1 to it waits. */
    private static QuorumAlmanac appendOfALowerTerm() {
        QuorumAlmanac x = Play.settled();
        x.write(0, 1, 1);
        Play.loseAllBut(x, Play.lastOf(x, 'a', 2));
        x.crash(0);
        Play.tickTo(x, 20);
        x.deliver(Play.lastOf(x, 'v', 12));
        Check.due("a vote at the clock 20", "1 20 2", () -> x.vote(2) + " " + x.clock(2) + " " + x.term(2));
        return x;
    }

    // "of its term's leader"
    private static void notHeardByALowerTerm() {
        QuorumAlmanac x = appendOfALowerTerm();
        Play.tickTo(x, 25);
        Check.due("an append of a lower term", 1, () -> x.deliver(Play.lastOf(x, 'a', 2)));
        standsBehind(x, 2, 20);
    }

    private static void neverWithoutBeingAMember() {
        for (int i = 0; i < 5; i++) {
            int node = i;
            QuorumAlmanac x = new QuorumAlmanac(31 - (1 << node));
            Play.crashAllBut(x, 1 << node);
            Play.tickOne(x, node, 40);
            Check.due("no member, 40 ticks", "f 0 0", () -> x.role(node) + " " + x.term(node) + " " + x.waiting());
        }
    }

    // "fewer than 10 of its ticks ago, does nothing"
    private static void calmBehindARefusedAppend() {
        QuorumAlmanac x = appendWithAGap();
        x.deliver(x.earliest());
        Check.due("an append is refused at the clock 22", "0 22 true",
            () -> x.last(2) + " " + x.clock(2) + " " + (x.refusedShare() > 0));
        x.crash(1);
        x.start(0);
        Play.tickTo(x, 31);
        x.tick(0);
        Check.due("node 0 stands", "c 2", () -> x.role(0) + " " + x.term(0));
        int wish = Play.lastOf(x, 'v', 2);
        int twin = x.copy(wish);
        Check.due("9 ticks behind that", 0, () -> x.deliver(wish));
        x.tick(2);
        Check.due("10 ticks behind that", 1, () -> x.deliver(twin));
    }

    private static void calmBehindASnapshot() {
        QuorumAlmanac x = Play.behindASnapshot();
        x.deliver(x.earliest());
        Check.due("a snapshot at the clock 9", "2 9", () -> x.snapshot(2) + " " + x.clock(2));
        x.crash(0);
        Play.tickTo(x, 18);
        Play.tickOne(x, 1, 2);
        Check.due("node 1 stands", "c 2", () -> x.role(1) + " " + x.term(1));
        int wish = Play.lastOf(x, 'v', 12);
        int twin = x.copy(wish);
        Check.due("9 ticks behind that", 0, () -> x.deliver(wish));
        Check.due("nothing is done", 1, () -> x.term(2));
        x.tick(2);
        Check.due("10 ticks behind that", 1, () -> x.deliver(twin));
        Check.due("the term is taken", 2, () -> x.term(2));
    }

    private static void notCalmBehindAVote() {
        QuorumAlmanac x = new QuorumAlmanac(31);
        Play.tickTo(x, 9);
        x.tick(0);
        x.deliver(2);
        Check.due("node 3 has voted", "0 1", () -> x.vote(3) + " " + x.term(3));
        Play.loseAll(x);
        Play.tickTo(x, 18);
        Play.loseAll(x);
        Play.tickOne(x, 0, 2);
        Check.due("node 0 stands in term 2", 2, () -> x.term(0));
        Check.due("9 ticks behind a vote", "18 1", () -> x.clock(3) + " " + x.deliver(Play.lastOf(x, 'v', 3)));
        Check.due("a vote in the next term", "0 2", () -> x.vote(3) + " " + x.term(3));
    }

    private static void notCalmBehindALowerTerm() {
        QuorumAlmanac x = appendOfALowerTerm();
        Play.tickTo(x, 30);
        x.deliver(Play.lastOf(x, 'a', 2));
        x.tick(1);
        Check.due("node 1 stands in term 3", 3, () -> x.term(1));
        Check.due("an append of a lower term calms nobody", 1, () -> x.deliver(Play.lastOf(x, 'v', 12)));
        Check.due("a vote", "1 3", () -> x.vote(2) + " " + x.term(2));
    }

    // "and neither does a leader that has a lease"
    private static void leaderWhoseLeaseRunsOut() {
        QuorumAlmanac x = new QuorumAlmanac(3);
        Play.crashAllBut(x, 3);
        Play.tickTo(x, 11);
        Play.loseAll(x);
        Play.tickTo(x, 20);
        Play.voteFor(x, 0, 1);
        x.sync(0);
        x.deliver(Play.lastOf(x, 'a', 1));
        x.sync(1);
        x.deliver(Play.lastOf(x, 'k', 10));
        Check.due("a lease at the clock 20", "true 20", () -> x.hasLease(0) + " " + x.clock(0));
        x.crash(1);
        Play.loseAll(x);
        x.start(1);
        Play.tickTo(x, 25);
        Check.due("5 ticks later", true, () -> x.hasLease(0));
        x.tick(0);
        Check.due("6 ticks later", false, () -> x.hasLease(0));
        // Node 1 can't stand while the lease holds: 11 ticks behind its start are more than 5.
        for (int clock = 26; clock <= 30; clock++) {
            Play.tickTo(x, clock);
            Play.loseAll(x);
        }
        Play.tickTo(x, 31);
        Check.due("node 1 stands", "c 3", () -> x.role(1) + " " + x.term(1));
        Check.due("without a lease, a leader answers", 1, () -> x.deliver(Play.lastOf(x, 'v', 10)));
        Check.due("and is a follower", "f 3", () -> x.role(0) + " " + x.term(0));
    }

    // "for the same one, by its index"
    private static void wishesByTheIndex() {
        int[][] logs = {{2, 1, 0}, {2, 2, 1}, {1, 2, 0}, {1, 1, 1}, {3, 2, 0}, {2, 3, 1}};
        for (int[] log : logs) {
            QuorumAlmanac x = Play.settled();
            x.write(0, 1, 1);
            x.write(0, 1, 2);
            int first = x.earliest();
            // Appends 0 and 1 of node 0 hold the entry 2, appends 2 and 3 the entries 2 and 3.
            for (int node = 1; node <= 2; node++) {
                int own = node == 1 ? log[1] : log[0];
                if (own > 1) {
                    x.deliver(first + (own - 2) * 2 + node - 1);
                }
            }
            Play.loseAll(x);
            x.crash(0);
            Play.tickTo(x, 20);
            Check.due("the logs", log[0] + " " + log[1] + " c", () -> x.last(2) + " " + x.last(1) + " " + x.role(1));
            x.deliver(Play.lastOf(x, 'v', 12));
            String want = log[2] == 1 || log[1] > log[0] ? "1" : "throws.NoSuchElementException";
            Check.due("a wish of " + log[1] + " entries to one of " + log[0], want, () -> x.vote(2));
            Check.due("its term is taken all the same", 2, () -> x.term(2));
        }
    }

    /** Node 1 leads term 2 with two entries, the last one of term 2; node 2 has three, all of term 1. */
    private static QuorumAlmanac shorterOfAGreaterTerm() {
        QuorumAlmanac x = Play.fiveSettled();
        x.write(0, 1, 1);
        x.write(0, 1, 2);
        x.deliver(Play.lastOf(x, 'a', 2));
        x.sync(2);
        Play.loseAll(x);
        x.crash(0);
        Play.tickTo(x, 20);
        x.deliver(Play.lastOf(x, 'v', 13));
        x.deliver(Play.lastOf(x, 'y', 31));
        Play.voteFor(x, 1, 4);
        x.sync(1);
        Check.due("the logs", "2 2 3 1",
            () -> x.last(1) + " " + x.entryTerm(1, 2) + " " + x.last(2) + " " + x.entryTerm(2, 3));
        Play.loseAll(x);
        return x;
    }

    // "by the term of the last entry"
    private static void wishesByTheTerm() {
        QuorumAlmanac x = shorterOfAGreaterTerm();
        Play.tickTo(x, 32);
        Play.loseAll(x);
        x.tick(2);
        Check.due("node 2 stands in term 3", "c 3 3", () -> x.role(2) + " " + x.term(2) + " " + x.last(2));
        x.deliver(Play.lastOf(x, 'v', 21));
        Check.due("node 1 takes the term", "f 3", () -> x.role(1) + " " + x.term(1));
        Check.noElement("but a longer log of a lower term is behind", () -> x.vote(1));
        QuorumAlmanac y = shorterOfAGreaterTerm();
        y.crash(1);
        y.start(1);
        Play.tickTo(y, 30);
        Play.loseAll(y);
        y.tick(1);
        Check.due("node 1 stands in term 3", "c 3 2", () -> y.role(1) + " " + y.term(1) + " " + y.last(1));
        y.deliver(Play.lastOf(y, 'v', 12));
        Check.due("a shorter log of a greater term is not", "1 3", () -> y.vote(2) + " " + y.term(2));
    }

    // "if the terms are the same"
    private static void wishOfTheSameTerm() {
        QuorumAlmanac x = Play.settled();
        Play.tickTo(x, 13);
        int append = Play.lastOf(x, 'a', 1);
        Play.loseAllBut(x, append);
        Play.tickTo(x, 20);
        Check.due("node 1 stands in term 2", "c 2", () -> x.role(1) + " " + x.term(1));
        x.deliver(append);
        x.deliver(Play.lastOf(x, 'k', 10));
        Check.due("node 0 has its term by an answer", 2, () -> x.term(0));
        Check.noElement("and no vote", () -> x.vote(0));
        x.deliver(Play.lastOf(x, 'v', 10));
        Check.due("it votes in this term", "1 f", () -> x.vote(0) + " " + x.role(0));
    }

    private static void wishOfALowerTerm() {
        QuorumAlmanac x = new QuorumAlmanac(31);
        Play.tickTo(x, 9);
        x.tick(0);
        int wish = 1;
        x.deliver(0);
        x.deliver(2);
        x.deliver(4);
        x.deliver(5);
        Check.due("node 0 leads term 1 by three of five", "l 2", () -> x.role(0) + " " + x.between(wish));
        x.deliver(6);
        Check.due("node 1 has its entry", 1, () -> x.last(1));
        Play.loseAllBut(x, wish);
        x.crash(0);
        Play.tickTo(x, 20);
        x.deliver(Play.lastOf(x, 'v', 13));
        x.deliver(Play.lastOf(x, 'y', 31));
        Play.voteFor(x, 1, 4);
        x.deliver(Play.lastOf(x, 'a', 12));
        Check.due("an append with a gap has brought term 2", "2 0", () -> x.term(2) + " " + x.last(2));
        Check.noElement("and no vote", () -> x.vote(2));
        Play.tickTo(x, 30);
        Check.due("a wish of term 1, of an empty log, is answered", 1, () -> x.deliver(wish));
        Check.noElement("but gets no vote", () -> x.vote(2));
        Check.due("nor is the term taken", 2, () -> x.term(2));
    }

    // "a majority": of one to five
    private static void majoritiesOfVotes() {
        int[] needed = {0, 1, 2, 2, 3, 3};
        for (int size = 1; size <= 5; size++) {
            int set = (1 << size) - 1;
            QuorumAlmanac x = new QuorumAlmanac(set);
            Play.crashAllBut(x, set);
            Play.tickAll(x, 9);
            x.tick(0);
            for (int voter = 1; voter < size; voter++) {
                x.deliver(voter - 1);
            }
            int votes = 1;
            while (votes < needed[size]) {
                Check.due(votes + " of " + size, "c 0", () -> x.role(0) + " " + x.last(0));
                x.deliver(Play.lastOf(x, 'y', 10 * votes));
                votes++;
            }
            Check.due(votes + " of " + size, "l 1", () -> x.role(0) + " " + x.last(0));
        }
    }

    // "has voted for it in this term"
    private static void votesOfAnotherTerm() {
        QuorumAlmanac x = Play.candidate();
        x.deliver(0);
        Play.tickTo(x, 19);
        x.tick(0);
        Check.due("node 0 stands again", "c 2", () -> x.role(0) + " " + x.term(0));
        Check.due("a vote of term 1", "y 10", () -> x.kindOf(2) + " " + x.between(2));
        x.deliver(2);
        Check.due("is none in term 2", "c 2", () -> x.role(0) + " " + x.term(0));
        Play.voteFor(x, 0, 1);
    }

    private static void votesBehindACrash() {
        QuorumAlmanac x = Play.candidate();
        x.deliver(0);
        x.crash(0);
        x.start(0);
        Check.due("a vote of its term", "y 10 1", () -> x.kindOf(2) + " " + x.between(2) + " " + x.term(0));
        x.deliver(2);
        Check.due("is no help to one that stands no more", "f 0", () -> x.role(0) + " " + x.last(0));
    }
}
