/** Moves an object on to where a test begins. Node 0 leads, and 3 and 4 are down, unless a test says otherwise. */
final class Play {
    private Play() {
    }

    /** Lets all nodes that run tick so often, together. */
    static void tickAll(QuorumAlmanac x, int times) {
        for (int i = 0; i < times; i++) {
            for (int node = 0; node < 5; node++) {
                if (x.role(node) != 'd') {
                    x.tick(node);
                }
            }
        }
    }

    /** Lets all nodes that run tick until they have this clock, the slower ones first. */
    static void tickTo(QuorumAlmanac x, int clock) {
        for (int now = 0; now < clock; now++) {
            for (int node = 0; node < 5; node++) {
                if (x.role(node) != 'd' && x.clock(node) == now) {
                    x.tick(node);
                }
            }
        }
    }

    /** Delivers the earliest message until none waits. */
    static void deliverAll(QuorumAlmanac x) {
        for (int i = 0; i < 400 && x.waiting() > 0; i++) {
            x.deliver(x.earliest());
        }
    }

    static void loseAll(QuorumAlmanac x) {
        while (x.waiting() > 0) {
            x.lose(x.earliest());
        }
    }

    /** Loses all messages but one. */
    static void loseAllBut(QuorumAlmanac x, int kept) {
        for (int message = x.earliest(); message < 600 && x.waiting() > 1; message++) {
            int number = message;
            if (number != kept && !Check.told(() -> x.kindOf(number)).startsWith("throws")) {
                x.lose(number);
            }
        }
    }

    static void syncAll(QuorumAlmanac x) {
        for (int node = 0; node < 5; node++) {
            if (x.role(node) != 'd') {
                x.sync(node);
            }
        }
    }

    /** Of the members 0, 1 and 2, node 0 is a candidate at the clock 10; the wishes 0 and 1 wait. */
    static QuorumAlmanac candidate() {
        QuorumAlmanac x = new QuorumAlmanac(7);
        x.crash(3);
        x.crash(4);
        tickAll(x, 9);
        x.tick(0);
        return x;
    }

    /** Node 0 leads term 1 by the vote of node 1; the appends 3 and 4 of its first round wait, the wish 1 is lost. */
    static QuorumAlmanac elected() {
        QuorumAlmanac x = candidate();
        x.deliver(0);
        x.deliver(2);
        x.lose(1);
        return x;
    }

    /** The 'o' entry of node 0 is in all three logs, synced, and known to be committed by the leader alone. */
    static QuorumAlmanac settled() {
        QuorumAlmanac x = elected();
        x.sync(0);
        deliverAll(x);
        x.sync(1);
        x.sync(2);
        deliverAll(x);
        return x;
    }

    /** Node 0 alone is a member, leads, and its 'o' entry is committed. */
    static QuorumAlmanac alone() {
        QuorumAlmanac x = new QuorumAlmanac(1);
        for (int node = 1; node < 5; node++) {
            x.crash(node);
        }
        tickAll(x, 10);
        x.sync(0);
        return x;
    }

    /** Node 0 leads, and all that it has is synced by all and known to be committed by all that run. */
    static void spread(QuorumAlmanac x) {
        x.sync(0);
        deliverAll(x);
        for (int i = 0; i < 3; i++) {
            x.tick(0);
            x.tick(1);
            x.tick(2);
        }
        deliverAll(x);
        syncAll(x);
        deliverAll(x);
        for (int i = 0; i < 3; i++) {
            x.tick(0);
            x.tick(1);
            x.tick(2);
        }
        deliverAll(x);
    }

    /** What all queries answer, as one text: nothing is changed if it stays the same. */
    static String told(QuorumAlmanac x) {
        StringBuilder text = new StringBuilder();
        for (int i = 0; i < 5; i++) {
            int node = i;
            text.append(x.role(node)).append(x.term(node)).append(' ').append(x.clock(node)).append(' ');
            text.append(Check.told(() -> x.vote(node))).append(' ').append(x.last(node)).append(' ');
            text.append(x.synced(node)).append(' ').append(x.committed(node)).append(' ').append(x.snapshot(node));
            text.append(' ').append(x.members(node)).append(' ').append(x.hasLease(node)).append('\n');
        }
        text.append(x.waiting()).append(' ').append(Check.told(() -> x.earliest())).append(' ');
        text.append(x.history()).append(' ').append(x.delivered()).append(' ').append(x.isSound());
        return text.toString();
    }
}
