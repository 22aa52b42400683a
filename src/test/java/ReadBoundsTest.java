/** The bounds of leases, reads and messages, and of the calls that an object is promised for. */
final class ReadBoundsTest {
    public static void main(String[] args) {
        leaseOfSixTicks();
        majoritiesOfRounds();
        majoritiesOfTwoSets();
        roundOfASnapshot();
        roundsAheadAtAndBehind();
        twelveReads();
        twelveReadsOfTwoLeaders();
        readyOrLost();
        valueAsItIsReady();
        sixtyMessages();
        sixtyMessagesAtARound();
        calls();
        callsOfRounds();
        callsOfMessages();
        Check.end();
    }

    // "fewer than 6 of its ticks ago"
    private static void leaseOfSixTicks() {
        QuorumAlmanac x = Play.settled();
        x.write(0, 1, 1);
        Play.loseAll(x);
        for (int clock = 10; clock <= 15; clock++) {
            Play.tickTo(x, clock);
            int ticks = clock - 10;
            Check.due(ticks + " ticks behind the round that was answered", "true 0",
                () -> x.hasLease(0) + " " + x.readByLease(0, 1));
        }
        Play.tickTo(x, 16);
        Check.due("6 ticks", false, () -> x.hasLease(0));
        Check.state("6 ticks", () -> x.readByLease(0, 1));
        Check.due("a read that was refused is none", true, () -> x.isSound());
    }

    // "a majority has answered": of one to five
    private static void majoritiesOfRounds() {
        int[] needed = {0, 1, 2, 2, 3, 3};
        for (int size = 1; size <= 5; size++) {
            int set = (1 << size) - 1;
            QuorumAlmanac x = new QuorumAlmanac(set);
            Play.crashAllBut(x, set);
            Play.tickAll(x, 9);
            x.tick(0);
            Play.deliverAll(x);
            Play.syncAll(x);
            Play.deliverAll(x);
            Play.tickTo(x, 19);
            Play.loseAll(x);
            Check.due("a lease of the clock 10", size == 1, () -> x.hasLease(0));
            x.askRead(0, 3);
            int answered = 1;
            while (answered < needed[size]) {
                Check.due(answered + " of " + size, "false w", () -> x.hasLease(0) + " " + x.readState(0));
                x.deliver(Play.lastOf(x, 'a', answered));
                x.deliver(Play.lastOf(x, 'k', 10 * answered));
                answered++;
            }
            Check.due(answered + " of " + size, "true r", () -> x.hasLease(0) + " " + x.readState(0));
        }
    }

    // "a majority is one of each set then"
    private static void majoritiesOfTwoSets() {
        QuorumAlmanac x = Play.settled();
        x.start(3);
        x.start(4);
        x.change(0, 1 + 8 + 16);
        Play.loseAll(x);
        Play.tickTo(x, 19);
        Play.loseAll(x);
        x.askRead(0, 3);
        for (int node : new int[] {1, 2}) {
            x.deliver(Play.lastOf(x, 'a', node));
            x.deliver(Play.lastOf(x, 'k', 10 * node));
            Check.due("a majority of the old set alone", "false w", () -> x.hasLease(0) + " " + x.readState(0));
        }
        x.deliver(Play.lastOf(x, 'a', 4));
        x.deliver(Play.lastOf(x, 'k', 40));
        Check.due("and of the new one", "true r", () -> x.hasLease(0) + " " + x.readState(0));
        x.askRead(0, 3);
        for (int node : new int[] {3, 4}) {
            x.deliver(Play.lastOf(x, 'a', node));
            x.deliver(Play.lastOf(x, 'k', 10 * node));
            Check.due("a majority of the new set alone", 'w', () -> x.readState(1));
        }
        x.deliver(Play.lastOf(x, 'a', 2));
        x.deliver(Play.lastOf(x, 'k', 20));
        Check.due("and of the old one", 'r', () -> x.readState(1));
    }

    // "answers in the same way"
    private static void roundOfASnapshot() {
        QuorumAlmanac x = Play.behindASnapshot();
        x.askRead(0, 6);
        Play.loseAllBut(x, Play.lastOf(x, 's', 2));
        x.deliver(x.earliest());
        Check.due("the answer to a snapshot", "k 20 w",
            () -> x.kindOf(x.earliest()) + " " + x.between(x.earliest()) + " " + x.readState(0));
        x.deliver(x.earliest());
        Check.due("tells its round", "r 66", () -> x.readState(0) + " " + x.readValue(0));
    }

    // "a round that was begun as it was asked, or later"
    private static void roundsAheadAtAndBehind() {
        for (int i = -1; i <= 1; i++) {
            int behind = i;
            QuorumAlmanac x = Play.settled();
            Play.tickTo(x, 13);
            int[] appends = {Play.lastOf(x, 'a', 1), 0, 0};
            x.askRead(0, 1);
            appends[1] = Play.lastOf(x, 'a', 1);
            Play.tickTo(x, 16);
            appends[2] = Play.lastOf(x, 'a', 1);
            x.deliver(appends[behind + 1]);
            Check.due("not answered yet", 'w', () -> x.readState(0));
            x.deliver(Play.lastOf(x, 'k', 10));
            Check.due("the round " + behind + " behind that of the read", behind < 0 ? 'w' : 'r', () -> x.readState(0));
        }
    }

    // "or 12 reads wait"
    private static void twelveReads() {
        QuorumAlmanac x = Play.settled();
        for (int i = 0; i < 12; i++) {
            int read = i;
            Check.due("read " + read, read, () -> x.askRead(0, read));
        }
        Check.state("a read more", () -> x.askRead(0, 0));
        Check.noElement("it has no number", () -> x.readState(12));
        int append = Play.lastOf(x, 'a', 1);
        x.deliver(append);
        x.deliver(Play.lastOf(x, 'k', 10));
        Check.due("the last one is ready, and with it all", "rr", () -> "" + x.readState(0) + x.readState(11));
        Check.due("there is room again", 12, () -> x.askRead(0, 0));
        x.crash(0);
        Check.due("it is lost", 'l', () -> x.readState(12));
    }

    private static void twelveReadsOfTwoLeaders() {
        QuorumAlmanac x = Play.settled();
        for (int read = 0; read < 11; read++) {
            x.askRead(0, 1);
        }
        Play.loseAll(x);
        Play.tickTo(x, 20);
        Play.voteFor(x, 1, 2);
        Play.loseAllBut(x, Play.lastOf(x, 'a', 12));
        x.deliver(x.earliest());
        x.sync(1);
        x.sync(2);
        Play.deliverAll(x);
        Check.due("two leaders", "l l 2", () -> x.role(0) + " " + x.role(1) + " " + x.committed(1));
        Check.due("the twelfth that waits, over all", 11, () -> x.askRead(1, 1));
        Check.state("one more of the one", () -> x.askRead(1, 1));
        Check.state("one more of the other", () -> x.askRead(0, 1));
        x.crash(0);
        Check.due("11 are lost", 12, () -> x.askRead(1, 1));
        Check.due("the others wait on", "lww", () -> "" + x.readState(10) + x.readState(11) + x.readState(12));
    }

    // "no longer the leader of its term ahead of that"
    private static void readyOrLost() {
        QuorumAlmanac x = Play.settled();
        x.askRead(0, 1);
        x.deliver(Play.lastOf(x, 'a', 1));
        int answer = Play.lastOf(x, 'k', 10);
        int twin = x.copy(answer);
        x.deliver(answer);
        x.askRead(0, 1);
        x.deliver(Play.lastOf(x, 'a', 1));
        int late = Play.lastOf(x, 'k', 10);
        x.crash(0);
        x.start(0);
        Check.due("ready ahead of that, and not", "r0l", () -> "" + x.readState(0) + x.readValue(0) + x.readState(1));
        x.deliver(late);
        x.deliver(twin);
        Check.due("what is lost stays lost", "rl", () -> "" + x.readState(0) + x.readState(1));
        Check.noElement("without a value", () -> x.readValue(1));
    }

    // "with the value of the key at that moment"
    private static void valueAsItIsReady() {
        QuorumAlmanac x = Play.settled();
        x.askRead(0, 1);
        int asked = Play.lastOf(x, 'a', 2);
        x.write(0, 1, 11);
        x.sync(0);
        x.deliver(Play.lastOf(x, 'a', 1));
        Play.loseAllBut(x, asked);
        x.sync(1);
        Check.due("node 1 has a later round to answer", 'w', () -> x.readState(0));
        x.deliver(Play.lastOf(x, 'k', 10));
        Check.due("the write is committed as the read becomes ready", "r 11",
            () -> x.readState(0) + " " + x.readValue(0));
        x.write(0, 1, 12);
        x.sync(0);
        x.deliver(Play.lastOf(x, 'a', 1));
        x.sync(1);
        x.deliver(Play.lastOf(x, 'k', 10));
        Check.due("a later write", "12 11", () -> x.readStale(0, 1) + " " + x.readValue(0));
        Check.due("all is sound", true, () -> x.isSound());
    }

    // "At most 60 messages wait"
    private static void sixtyMessages() {
        QuorumAlmanac x = Play.candidate();
        for (int i = 2; i < 60; i++) {
            int number = i;
            Check.due("copy " + number, number, () -> x.copy(1));
        }
        Check.due("60 wait, none is lost", "60 0 v", () -> x.waiting() + " " + x.earliest() + " " + x.kindOf(0));
        Check.due("one more", 60, () -> x.copy(1));
        Check.due("60 wait, the earliest is lost", "60 1", () -> x.waiting() + " " + x.earliest());
        Check.noElement("the earliest", () -> x.deliver(0));
        x.lose(30);
        Check.due("59 wait", "59 1", () -> x.waiting() + " " + x.earliest());
        Check.due("there is room for one", 61, () -> x.copy(60));
        Check.due("60 wait, none is lost", "60 1", () -> x.waiting() + " " + x.earliest());
    }

    private static void sixtyMessagesAtARound() {
        QuorumAlmanac x = Play.settled();
        for (int i = 0; i < 29; i++) {
            x.write(0, 1, i);
        }
        int first = x.earliest();
        Check.due("58 wait", 58, () -> x.waiting());
        x.write(0, 1, 1);
        Check.due("60 wait", "60 " + first, () -> x.waiting() + " " + x.earliest());
        x.write(0, 1, 1);
        Check.due("two more, two are lost", "60 " + (first + 2), () -> x.waiting() + " " + x.earliest());
        Check.due("one is taken, one is sent", 1, () -> x.deliver(first + 61));
        Check.due("none is lost", "60 " + (first + 2), () -> x.waiting() + " " + x.earliest());
        Check.due("the answer is the last one", "k 20", () -> x.kindOf(first + 62) + " " + x.between(first + 62));
        Check.due("a sync more", 4, () -> x.sync(2));
        Check.due("one is lost", "60 " + (first + 3), () -> x.waiting() + " " + x.earliest());
    }

    // "for at most 512 calls after it has been made"
    private static void calls() {
        QuorumAlmanac x = new QuorumAlmanac(1);
        for (int node = 1; node < 5; node++) {
            x.crash(node);
        }
        Play.tickOne(x, 0, 10);
        x.sync(0);
        for (int read = 0; read < 493; read++) {
            x.askRead(0, 1);
        }
        Check.due("call 509", 493, () -> x.askRead(0, 1));
        Check.due("call 510", 'r', () -> x.readState(493));
        Check.due("call 511", true, () -> x.hasLease(0));
        Check.due("call 512", 494, () -> x.askRead(0, 1));
    }

    private static void callsOfRounds() {
        QuorumAlmanac x = Play.settled();
        x.askRead(0, 1);
        int append = x.earliest();
        for (int read = 0; read < 140; read++) {
            x.deliver(append);
            x.deliver(append + 2);
            x.askRead(0, 1);
            append += 3;
        }
        Check.due("140 reads, each by a round of its own", "rw", () -> "" + x.readState(139) + x.readState(140));
        Check.due("60 messages wait", 60, () -> x.waiting());
    }

    private static void callsOfMessages() {
        QuorumAlmanac x = Play.candidate();
        for (int number = 2; number < 440; number++) {
            x.copy(number - 1);
        }
        Check.due("60 wait still", 60, () -> x.waiting());
        Check.due("the numbers go on over all", 440, () -> x.copy(439));
        Check.due("each is as the first one was", "v 2", () -> x.kindOf(440) + " " + x.between(440));
        Check.due("and is heeded", 1, () -> x.deliver(440));
    }
}
