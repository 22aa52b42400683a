import java.util.ArrayList;
import java.util.List;
import java.util.function.Supplier;

/**
 * Every call that is refused, at each of some places of a run: the exception is the one that is due, all queries answer
 * behind it what they answered ahead of it, and a run that goes on goes on as if the call had not been made.
 */
final class RefusalsTest {
    private static final int[] NO_NODES = {-1, 5, Integer.MIN_VALUE, Integer.MAX_VALUE};
    private static final int[] NO_KEYS = {-1, 20, Integer.MIN_VALUE, Integer.MAX_VALUE};
    private static final int[] NO_SPLITS = {-1, 0, 20, Integer.MIN_VALUE, Integer.MAX_VALUE};
    private static final int[] NO_VALUES = {-1000, 1000, Integer.MIN_VALUE, Integer.MAX_VALUE};
    private static final int[] NO_SETS = {-1, 0, 32, Integer.MIN_VALUE, Integer.MAX_VALUE};
    private static final int[] NO_MESSAGES = {-1, 500, Integer.MIN_VALUE, Integer.MAX_VALUE};
    private static final int[] NO_READS = {-1, 500, Integer.MIN_VALUE, Integer.MAX_VALUE};
    private static final int[] NO_INDEXES = {-1, 0, 82, Integer.MIN_VALUE, Integer.MAX_VALUE};

    interface Call {
        Object answer(QuorumAlmanac x);
    }

    record Refusal(String what, String due, Call call) {
    }

    /** Where a run stands as the call is made, and what is refused there. */
    private static final class Place {
        private final String name;
        private final Supplier<QuorumAlmanac> made;
        private final List<Refusal> refusals = new ArrayList<>();

        private Place(String name, Supplier<QuorumAlmanac> made) {
            this.name = name;
            this.made = made;
            addWrongNodes();
            addWrongArguments();
        }

        private Place add(String what, String due, Call call) {
            refusals.add(new Refusal(what, "throws." + due, call));
            return this;
        }

        private Place state(String what, Call call) {
            return add(what, "IllegalStateException", call);
        }

        private Place unsupported(String what, Call call) {
            return add(what, "UnsupportedOperationException", call);
        }

        private Place element(String what, Call call) {
            return add(what, "NoSuchElementException", call);
        }

        private Place argument(String what, Call call) {
            return add(what, "IllegalArgumentException", call);
        }

        private void bounds(String what, Call call) {
            add(what, "IndexOutOfBoundsException", call);
        }

        private void addWrongNodes() {
            for (int node : NO_NODES) {
                String of = "(" + node + ")";
                bounds("tick" + of, x -> x.tick(node));
                bounds("sync" + of, x -> x.sync(node));
                bounds("crash" + of, x -> x.crash(node));
                bounds("start" + of, x -> x.start(node));
                bounds("compact" + of, x -> x.compact(node));
                bounds("role" + of, x -> x.role(node));
                bounds("term" + of, x -> x.term(node));
                bounds("vote" + of, x -> x.vote(node));
                bounds("clock" + of, x -> x.clock(node));
                bounds("last" + of, x -> x.last(node));
                bounds("synced" + of, x -> x.synced(node));
                bounds("committed" + of, x -> x.committed(node));
                bounds("snapshot" + of, x -> x.snapshot(node));
                bounds("members" + of, x -> x.members(node));
                bounds("entryTerm of no entry" + of, x -> x.entryTerm(node, 0));
                bounds("entryKind of no entry" + of, x -> x.entryKind(node, 0));
                bounds("write of all that is wrong" + of, x -> x.write(node, 20, 1000));
                bounds("reshape of all that is wrong" + of, x -> x.reshape(node, 0, true));
                bounds("change of all that is wrong" + of, x -> x.change(node, 0));
                bounds("hasLease" + of, x -> x.hasLease(node));
                bounds("readByLease of no key" + of, x -> x.readByLease(node, 20));
                bounds("askRead of no key" + of, x -> x.askRead(node, 20));
                bounds("readStale of no key" + of, x -> x.readStale(node, 20));
                bounds("rangeOf of no key" + of, x -> x.rangeOf(node, 20));
                bounds("load of no key" + of, x -> x.load(node, 20));
            }
        }

        private void addWrongArguments() {
            for (int node : new int[] {0, 4}) {
                for (int key : NO_KEYS) {
                    String of = "(" + node + ", " + key + ")";
                    argument("write" + of, x -> x.write(node, key, 0));
                    argument("readByLease" + of, x -> x.readByLease(node, key));
                    argument("askRead" + of, x -> x.askRead(node, key));
                    argument("readStale" + of, x -> x.readStale(node, key));
                    argument("rangeOf" + of, x -> x.rangeOf(node, key));
                    argument("load" + of, x -> x.load(node, key));
                    argument("valueByHistory" + of, x -> x.valueByHistory(key));
                }
                for (int key : NO_SPLITS) {
                    argument("split(" + node + ", " + key + ")", x -> x.reshape(node, key, true));
                    argument("merge(" + node + ", " + key + ")", x -> x.reshape(node, key, false));
                }
                for (int value : NO_VALUES) {
                    argument("write of " + value + " at " + node, x -> x.write(node, 0, value));
                }
                for (int set : NO_SETS) {
                    argument("change to " + set + " at " + node, x -> x.change(node, set));
                }
                for (int index : NO_INDEXES) {
                    element("entryTerm(" + node + ", " + index + ")", x -> x.entryTerm(node, index));
                    element("entryKind(" + node + ", " + index + ")", x -> x.entryKind(node, index));
                }
            }
            for (int message : NO_MESSAGES) {
                addNoMessage(message);
            }
            for (int read : NO_READS) {
                addNoRead(read);
            }
        }

        private Place addNoMessage(int message) {
            String of = "(" + message + ")";
            element("kindOf" + of, x -> x.kindOf(message));
            element("between" + of, x -> x.between(message));
            element("deliver" + of, x -> x.deliver(message));
            element("lose" + of, x -> x.lose(message));
            return element("copy" + of, x -> x.copy(message));
        }

        private Place addNoRead(int read) {
            element("readState(" + read + ")", x -> x.readState(read));
            return element("readValue(" + read + ")", x -> x.readValue(read));
        }

        private Place addNoEntry(int node, int index) {
            element("entryTerm(" + node + ", " + index + ")", x -> x.entryTerm(node, index));
            return element("entryKind(" + node + ", " + index + ")", x -> x.entryKind(node, index));
        }

        /** What is refused by a node that leads, but has no room. */
        private Place addNoRoom(int node) {
            state("write", x -> x.write(node, 0, 0));
            state("write of the last ones", x -> x.write(node, 19, 999));
            state("split", x -> x.reshape(node, 1, true));
            return state("merge", x -> x.reshape(node, 19, false));
        }

        /** What is refused by a node that runs, but does not lead. */
        private Place addNoLeader(int node) {
            addNoRoom(node);
            state("change", x -> x.change(node, 1));
            state("readByLease", x -> x.readByLease(node, 0));
            return state("askRead", x -> x.askRead(node, 0));
        }

        private Place addDown(int node) {
            addNoLeader(node);
            state("tick", x -> x.tick(node));
            state("sync", x -> x.sync(node));
            state("crash", x -> x.crash(node));
            state("compact", x -> x.compact(node));
            state("readStale", x -> x.readStale(node, 0));
            state("rangeOf", x -> x.rangeOf(node, 0));
            return state("load", x -> x.load(node, 0));
        }

        private void check() {
            String untouched = Play.toldAll(made.get());
            String onward = goOn(made.get());
            for (Refusal refusal : refusals) {
                String what = name + ": " + refusal.what;
                QuorumAlmanac x = made.get();
                Check.due(what, refusal.due, () -> refusal.call.answer(x));
                Check.due(what + " changes nothing", untouched, () -> Play.toldAll(x));
                QuorumAlmanac y = made.get();
                Check.due(what + " again", refusal.due, () -> refusal.call.answer(y));
                Check.due(what + ": it goes on as without it", onward, () -> goOn(y));
            }
        }
    }

    public static void main(String[] args) {
        for (Place place : new Place[] {
            newObject(), driftedApart(), candidate(), withoutAnEntryOfItsTerm(), settled(), crashed(), twoSets(),
            newSetNotCommitted(), twelveReads(), lostReads(), leaseThatRanOut(), seventyNine(), eighty(),
            eightyOne(), compacted(), noMessageLeft(), sixtyMessages(), entriesAreGone(),
        }) {
            place.check();
        }
        Check.end();
    }

    /** Some calls more, and all that they answer. */
    private static String goOn(QuorumAlmanac x) {
        StringBuilder text = new StringBuilder();
        for (int turn = 0; turn < 12; turn++) {
            for (int i = 0; i < 5; i++) {
                int node = (turn + i) % 5;
                text.append(Check.told(() -> x.tick(node))).append(' ');
                if (turn % 4 == 1) {
                    text.append(Check.told(() -> x.sync(node))).append(' ');
                } else if (turn % 4 == 2) {
                    text.append(Check.told(() -> x.askRead(node, 1))).append(' ');
                } else if (turn % 4 == 3) {
                    text.append(Check.told(() -> x.write(node, 1, 7))).append(' ');
                }
            }
            for (int i = 0; i < 5; i++) {
                text.append(Check.told(() -> x.deliver(x.earliest()))).append(' ');
            }
            text.append('\n');
        }
        return text + Play.told(x);
    }

    private static Place newObject() {
        Place place = new Place("a new object", () -> new QuorumAlmanac(7));
        for (int i = 0; i < 5; i++) {
            int node = i;
            place.addNoLeader(node).addNoEntry(node, 1).state("start", x -> x.start(node))
                .state("compact", x -> x.compact(node)).element("vote", x -> x.vote(node));
        }
        place.element("earliest", x -> x.earliest()).addNoMessage(0).addNoRead(0);
        return place.add("refusedShare", "ArithmeticException", x -> x.refusedShare());
    }

    private static Place driftedApart() {
        return new Place("a clock 2 ahead", () -> {
            QuorumAlmanac x = new QuorumAlmanac(7);
            Play.tickOne(x, 3, 2);
            return x;
        }).state("tick", x -> x.tick(3)).state("start", x -> x.start(3));
    }

    private static Place candidate() {
        return new Place("a candidate", Play::candidate).addNoLeader(0).addNoLeader(1).addDown(4)
            .element("vote", x -> x.vote(1)).state("start", x -> x.start(0)).addNoMessage(2)
            .add("refusedShare", "ArithmeticException", x -> x.refusedShare());
    }

    private static Place withoutAnEntryOfItsTerm() {
        return new Place("no entry of its term is committed", Play::elected)
            .unsupported("change", x -> x.change(0, 7)).state("askRead", x -> x.askRead(0, 0))
            .state("readByLease", x -> x.readByLease(0, 0)).state("compact", x -> x.compact(0))
            .addNoMessage(0).addNoMessage(5).addNoEntry(0, 2);
    }

    private static Place settled() {
        return new Place("an entry is committed", () -> {
            QuorumAlmanac x = Play.settled();
            x.tick(0);
            return x;
        }).addNoLeader(1).addNoLeader(2).addDown(3).state("tick", x -> x.tick(0)).state("compact", x -> x.compact(1))
            .element("vote", x -> x.vote(2)).element("earliest", x -> x.earliest()).addNoRead(0)
            .addNoEntry(0, 2).addNoEntry(1, 2);
    }

    private static Place crashed() {
        return new Place("the leader crashed", () -> {
            QuorumAlmanac x = Play.settled();
            x.write(0, 1, 5);
            x.askRead(0, 1);
            x.crash(0);
            return x;
        }).addDown(0).addNoEntry(0, 2).state("start", x -> x.start(1))
            .element("readValue of a lost read", x -> x.readValue(0));
    }

    private static Place twoSets() {
        return new Place("two sets", () -> {
            QuorumAlmanac x = Play.settled();
            x.change(0, 3);
            return x;
        }).unsupported("change", x -> x.change(0, 7)).unsupported("the same change", x -> x.change(0, 3));
    }

    private static Place newSetNotCommitted() {
        return new Place("an 'n' that is not committed", () -> {
            QuorumAlmanac x = Play.alone();
            x.change(0, 1);
            x.sync(0);
            return x;
        }).unsupported("change", x -> x.change(0, 1)).unsupported("another change", x -> x.change(0, 31));
    }

    private static Place twelveReads() {
        Place place = new Place("12 reads wait", Play::twelveReads).state("askRead", x -> x.askRead(0, 0)).addNoRead(12);
        for (int i = 0; i < 12; i++) {
            int read = i;
            place.element("readValue of one that waits", x -> x.readValue(read));
        }
        return place.addNoLeader(1);
    }

    private static Place lostReads() {
        return new Place("a read is ready, others are lost", () -> {
            QuorumAlmanac x = Play.settled();
            x.askRead(0, 1);
            Play.deliverAll(x);
            x.askRead(0, 1);
            x.askRead(0, 0);
            x.crash(0);
            x.start(0);
            return x;
        }).element("readValue", x -> x.readValue(1)).element("readValue", x -> x.readValue(2)).addNoRead(3)
            .addNoLeader(0).state("start", x -> x.start(0)).state("compact", x -> x.compact(0));
    }

    private static Place leaseThatRanOut() {
        return new Place("a lease ran out", () -> {
            QuorumAlmanac x = Play.settled();
            Play.tickTo(x, 16);
            return x;
        }).state("readByLease", x -> x.readByLease(0, 1));
    }

    private static Place seventyNine() {
        return new Place("a log that goes to 79", () -> {
            QuorumAlmanac x = Play.logOf(79);
            x.sync(0);
            return x;
        }).state("change", x -> x.change(0, 1)).addNoEntry(0, 80);
    }

    private static Place eighty() {
        return new Place("a log that goes to 80", () -> Play.logOf(80)).addNoRoom(0)
            .state("change", x -> x.change(0, 1)).addNoEntry(0, 81);
    }

    private static Place eightyOne() {
        return new Place("a log that goes to 81", () -> {
            QuorumAlmanac x = Play.logOf(78);
            x.sync(0);
            x.change(0, 1);
            x.write(0, 1, 1);
            x.sync(0);
            Check.due("by an 'n'", 81, () -> x.last(0));
            return x;
        }).addNoRoom(0).state("change", x -> x.change(0, 1));
    }

    private static Place compacted() {
        return new Place("a snapshot", () -> {
            QuorumAlmanac x = Play.logOf(5);
            x.sync(0);
            x.compact(0);
            x.write(0, 1, 6);
            return x;
        }).state("compact", x -> x.compact(0)).addNoEntry(0, 1).addNoEntry(0, 5).addNoEntry(0, 7);
    }

    private static Place noMessageLeft() {
        return new Place("no message is left", () -> {
            QuorumAlmanac x = Play.candidate();
            x.lose(0);
            x.deliver(1);
            x.lose(2);
            return x;
        }).element("earliest", x -> x.earliest()).addNoMessage(0).addNoMessage(1).addNoMessage(2).addNoMessage(3);
    }

    private static Place sixtyMessages() {
        return new Place("60 messages wait, one was lost", () -> {
            QuorumAlmanac x = Play.candidate();
            for (int i = 0; i < 59; i++) {
                x.copy(1);
            }
            return x;
        }).addNoMessage(0).addNoMessage(61);
    }

    private static Place entriesAreGone() {
        return new Place("committed entries are gone", () -> {
            QuorumAlmanac x = Play.twoEntriesAreGone();
            x.start(0);
            return x;
        }).addNoEntry(1, 3).addNoEntry(1, 4).state("compact", x -> x.compact(0)).state("compact", x -> x.compact(1));
    }
}
