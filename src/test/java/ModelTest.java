import java.util.ArrayList;
import java.util.List;
import java.util.Random;

/**
 * Runs of calls that are drawn by seeds, each call put both to the program and to the plain model: both must answer
 * the same or throw the same exception. With an argument, that many runs are made for each way of drawing.
 */
final class ModelTest {
    private static final int CALLS = 512;
    private static final String[] NAMES = {
        "tick", "sync", "crash", "start", "compact", "role", "term", "vote", "clock", "last", "synced", "committed",
        "snapshot", "members", "entryTerm", "entryKind", "waiting", "earliest", "kindOf", "between", "deliver",
        "lose", "copy", "write", "reshape", "change", "hasLease", "readByLease", "askRead", "readState", "readValue",
        "readStale", "rangeOf", "load", "history", "valueByHistory", "delivered", "refusedShare", "meanLast",
        "isSound",
    };
    private static final int TICK = 0;
    private static final int SYNC = 1;
    private static final int CRASH = 2;
    private static final int START = 3;
    private static final int COMPACT = 4;
    private static final int FIRST_QUERY = 5;
    private static final int DELIVER = 20;
    private static final int LOSE = 21;
    private static final int COPY = 22;
    private static final int WRITE = 23;
    private static final int RESHAPE = 24;
    private static final int CHANGE = 25;
    private static final int LEASE_READ = 27;
    private static final int ASK_READ = 28;

    /** How often the calls are drawn while a node leads, by the way of drawing. */
    private static final int[][] WAYS = {
        // tick, sync, crash, start, compact, deliver, lose, copy, write, reshape, change, lease read, ask, query
        {8, 14, 0, 1, 1, 60, 1, 1, 12, 3, 2, 2, 4, 15},
        {20, 20, 2, 4, 2, 60, 6, 4, 8, 4, 4, 2, 6, 20},
        {10, 25, 1, 2, 8, 70, 2, 8, 12, 2, 8, 2, 10, 10},
        {3, 20, 0, 0, 1, 40, 1, 0, 60, 10, 2, 2, 2, 10},
        {25, 20, 3, 8, 6, 80, 10, 10, 12, 2, 10, 3, 4, 5},
        {2, 40, 0, 0, 2, 90, 0, 2, 5, 1, 20, 1, 8, 10},
        {20, 25, 3, 9, 14, 60, 4, 10, 16, 2, 2, 3, 6, 5},
        {30, 25, 1, 6, 10, 50, 1, 2, 14, 2, 2, 3, 4, 5},
        {100, 14, 1, 3, 2, 60, 1, 4, 12, 1, 4, 3, 4, 5},
    };
    /** From this way of drawing on, a run begins with committed entries that are in the log of the leader alone. */
    private static final int FIRST_UNSOUND = 7;
    /** And while none does: the nodes tick together, so that an election takes some fifty calls. */
    private static final int[] LEADERLESS = {100, 4, 1, 2, 1, 30, 1, 1, 1, 1, 1, 1, 1, 4};

    private final Random random;
    private final QuorumAlmanac real;
    private final PlainModel model;
    private final int[] weights;
    /** Which message is delivered: mostly the earliest, or any. */
    private final boolean isOrderly;
    /** How far the ticking nodes may drift apart. */
    private final int drift;
    private final boolean looksAtAll;
    private final boolean isUnsound;
    /** A node that gets no messages, and whose own ones get nowhere, for a while; or none. */
    private int cutOff = -1;
    private final int[] used = new int[NAMES.length];
    private int calls = 0;

    private ModelTest(long seed, int way, boolean looksAtAll) {
        random = new Random(seed);
        isUnsound = way >= FIRST_UNSOUND;
        int members = isUnsound ? 7
            : random.nextInt(3) == 0 ? random.nextInt(40) - 4 : 7 + 8 * random.nextInt(4);
        real = new QuorumAlmanac(members);
        model = new PlainModel(members);
        weights = WAYS[way];
        isOrderly = random.nextInt(3) > 0;
        drift = random.nextInt(3) / 2;
        this.looksAtAll = looksAtAll;
    }

    public static void main(String[] args) {
        int runs = args.length > 0 ? Integer.parseInt(args[0]) : 300;
        boolean looksAtAll = args.length > 1;
        long[] answered = new long[NAMES.length];
        for (int way = 0; way < WAYS.length; way++) {
            for (int run = 0; run < runs; run++) {
                ModelTest test = new ModelTest(1000L * run + way, way, looksAtAll);
                if (!test.run()) {
                    System.out.println("in run " + run + " of way " + way);
                    System.exit(1);
                }
                for (int i = 0; i < answered.length; i++) {
                    answered[i] += test.used[i];
                }
            }
        }
        for (int i = 0; i < answered.length; i++) {
            if (answered[i] == 0) {
                System.out.println(NAMES[i] + " never answered");
                System.exit(1);
            }
            if (looksAtAll) {
                System.out.println(NAMES[i] + " " + answered[i]);
            }
        }
        System.out.println(runs * WAYS.length + " runs as the model has them");
    }

    private boolean run() {
        if (isUnsound && !loseCommitted()) {
            return false;
        }
        // Fewer nodes, fewer ticks.
        for (int down = isUnsound ? 0 : random.nextInt(4); down > 0; down--) {
            if (!both(CRASH, random.nextInt(5), 0, 0)) {
                return false;
            }
        }
        while (calls < CALLS) {
            if (!step()) {
                return false;
            }
        }
        return true;
    }

    /** As in HistoryTest: a snapshot that comes late takes entries from a node that has told its leader of them. */
    private boolean loseCommitted() {
        boolean isSame = both(CRASH, 3, 0, 0) && both(CRASH, 4, 0, 0);
        for (int i = 0; i < 27; i++) {
            isSame = isSame && both(TICK, i % 3, 0, 0);
        }
        isSame = isSame && both(TICK, 0, 0, 0) && deliverLatest('v', 1) && deliverLatest('y', 10);
        isSame = isSame && both(SYNC, 0, 0, 0);
        for (int i = random.nextInt(3); i > 0; i--) {
            isSame = isSame && both(WRITE, 0, key(), value());
        }
        int ofTwo = latest('a', 2);
        for (int i = 1 + random.nextInt(3); i > 0; i--) {
            isSame = isSame && both(WRITE, 0, key(), value());
        }
        int ofMore = latest('a', 1);
        isSame = isSame && both(SYNC, 0, 0, 0) && both(DELIVER, ofTwo, 0, 0) && both(SYNC, 2, 0, 0);
        isSame = isSame && deliverLatest('k', 20) && both(COMPACT, 0, 0, 0) && both(ASK_READ, 0, 1, 0);
        int snapshot = latest('s', 1);
        isSame = isSame && both(DELIVER, ofMore, 0, 0) && both(SYNC, 1, 0, 0);
        int answer = latest('k', 10);
        isSame = isSame && both(DELIVER, snapshot, 0, 0) && both(DELIVER, answer, 0, 0);
        while (isSame && random.nextInt(6) > 0 && !model.queue.isEmpty()) {
            isSame = both(LOSE, model.queue.firstKey(), 0, 0);
        }
        cutOff = 0;
        return isSame && (random.nextBoolean() || both(COMPACT, 0, 0, 0))
            && (random.nextInt(4) > 0 || both(CRASH, 0, 0, 0));
    }

    private boolean deliverLatest(char kind, int between) {
        return both(DELIVER, latest(kind, between), 0, 0);
    }

    private int latest(char kind, int between) {
        int found = -1;
        for (PlainModel.Msg m : model.queue.values()) {
            found = m.kind() == kind && 10 * m.from() + m.to() == between ? m.number() : found;
        }
        return found;
    }

    private boolean step() {
        if (isUnsound && random.nextInt(doOthersLead() ? 40 : 1000) == 0) {
            cutOff = random.nextInt(6) - 1;
        }
        int what = draw(model.role(someLeader()) == 'l' ? weights : LEADERLESS);
        boolean isStrange = random.nextInt(60) == 0;
        int node = isStrange ? random.nextInt(9) - 2 : random.nextInt(5);
        switch (what) {
            case 0: return both(TICK, isStrange ? node : slowest(), 0, 0);
            case 1: return both(SYNC, node, 0, 0);
            case 2: return both(CRASH, node, 0, 0);
            case 3: return both(START, isStrange ? node : downNode(), 0, 0);
            case 4: return both(COMPACT, node, 0, 0);
            case 5: return both(DELIVER, isStrange ? random.nextInt(300) - 5 : someMessage(), 0, 0);
            case 6: return both(LOSE, isStrange ? random.nextInt(300) - 5 : someMessage(), 0, 0);
            case 7: return both(COPY, isStrange ? random.nextInt(300) - 5 : someMessage(), 0, 0);
            case 8: return both(WRITE, isStrange ? node : someLeader(), key(), value());
            case 9: return both(RESHAPE, isStrange ? node : someLeader(), key(), random.nextInt(3));
            case 10: return both(CHANGE, isStrange ? node : someLeader(), random.nextInt(12) == 0
                ? random.nextInt(40) - 4 : 1 + random.nextInt(31), 0);
            case 11: return both(LEASE_READ, isStrange ? node : someLeader(), key(), 0);
            case 12: return both(ASK_READ, isStrange ? node : someLeader(), key(), 0);
            default: return query(node);
        }
    }

    private int draw(int[] often) {
        int all = 0;
        for (int weight : often) {
            all += weight;
        }
        int drawn = random.nextInt(all);
        int what = 0;
        while (drawn >= often[what]) {
            drawn -= often[what];
            what++;
        }
        return what;
    }

    private boolean query(int node) {
        int what = FIRST_QUERY + random.nextInt(NAMES.length - FIRST_QUERY);
        if (what >= DELIVER && what <= CHANGE || what == LEASE_READ || what == ASK_READ) {
            return true;
        }
        String name = NAMES[what];
        if (name.equals("readState") || name.equals("readValue")) {
            return both(what, random.nextInt(model.reads.size() + 2) - 1, 0, 0);
        }
        if (name.equals("kindOf") || name.equals("between")) {
            return both(what, random.nextInt(8) == 0 ? random.nextInt(200) - 3 : someMessage(), 0, 0);
        }
        if (name.equals("valueByHistory")) {
            return both(what, key(), 0, 0);
        }
        return both(what, node, name.startsWith("entry") ? random.nextInt(random.nextInt(83) + 1) : key(), 0);
    }

    private int key() {
        int drawn = random.nextInt(40);
        return drawn == 0 ? -1 : drawn == 1 ? 20 : drawn < 20 ? drawn : random.nextInt(4);
    }

    private int value() {
        int drawn = random.nextInt(60);
        return drawn == 0 ? 1000 : drawn == 1 ? -1000 : drawn == 2 ? 999 : drawn == 3 ? -999
            : random.nextInt(1999) - 999;
    }

    /** A node that can tick, and rather one that would be a candidate early. */
    private int slowest() {
        int best = random.nextInt(5);
        for (int i = 0; i < 5; i++) {
            PlainModel.Nd n = model.nodes[i];
            PlainModel.Nd b = model.nodes[best];
            if (n.runs && (!b.runs || n.clock < b.clock - drift)) {
                best = i;
            }
        }
        return best;
    }

    private boolean doOthersLead() {
        boolean isOne = false;
        for (PlainModel.Nd n : model.nodes) {
            isOne |= n.id != 0 && n.runs && n.role == 'l';
        }
        return isOne;
    }

    private int downNode() {
        int from = random.nextInt(5);
        for (int i = 0; i < 5; i++) {
            if (!model.nodes[(from + i) % 5].runs) {
                return (from + i) % 5;
            }
        }
        return from;
    }

    private int someLeader() {
        int from = random.nextInt(5);
        for (int i = 0; i < 5; i++) {
            PlainModel.Nd n = model.nodes[(from + i) % 5];
            if (n.runs && n.role == 'l') {
                return n.id;
            }
        }
        return from;
    }

    private int someMessage() {
        if (model.queue.isEmpty()) {
            return 0;
        }
        List<Integer> numbers = new ArrayList<>();
        for (PlainModel.Msg m : model.queue.values()) {
            if (m.from() != cutOff && m.to() != cutOff) {
                numbers.add(m.number());
            }
        }
        if (numbers.isEmpty()) {
            return -1;
        }
        return numbers.get(isOrderly && random.nextInt(6) > 0 ? 0 : random.nextInt(numbers.size()));
    }

    private boolean both(int what, int a, int b, int c) {
        calls++;
        String due = Check.told(() -> ofModel(what, a, b, c));
        String got = Check.told(() -> ofReal(what, a, b, c));
        if (!due.equals(got)) {
            System.out.println("call " + calls + ": " + NAMES[what] + "(" + a + ", " + b + ", " + c + ") answered "
                + got + ", by the model " + due);
            return false;
        }
        if (!due.startsWith("throws")) {
            used[what]++;
        }
        return !looksAtAll || what >= FIRST_QUERY && what < DELIVER || lookAtAll(what);
    }

    /** For work on the program alone: it makes more calls than an object is promised for. */
    private boolean lookAtAll(int after) {
        for (int what = FIRST_QUERY; what < NAMES.length; what++) {
            if (what >= DELIVER && what <= CHANGE || what == LEASE_READ || what == ASK_READ) {
                continue;
            }
            for (int a = 0; a < 5; a++) {
                int query = what;
                int node = a;
                int other = what == 14 || what == 15 ? random.nextInt(82) : random.nextInt(20);
                String due = Check.told(() -> ofModel(query, node, other, 0));
                String got = Check.told(() -> ofReal(query, node, other, 0));
                if (!due.equals(got)) {
                    System.out.println("call " + calls + ": behind " + NAMES[after] + ", " + NAMES[what] + "(" + a
                        + ", " + other + ") answered " + got + ", by the model " + due);
                    return false;
                }
            }
        }
        return true;
    }

    private Object ofReal(int what, int a, int b, int c) {
        switch (NAMES[what]) {
            case "tick": return real.tick(a);
            case "sync": return real.sync(a);
            case "crash": return real.crash(a);
            case "start": return real.start(a);
            case "compact": return real.compact(a);
            case "role": return real.role(a);
            case "term": return real.term(a);
            case "vote": return real.vote(a);
            case "clock": return real.clock(a);
            case "last": return real.last(a);
            case "synced": return real.synced(a);
            case "committed": return real.committed(a);
            case "snapshot": return real.snapshot(a);
            case "members": return real.members(a);
            case "entryTerm": return real.entryTerm(a, b);
            case "entryKind": return real.entryKind(a, b);
            case "waiting": return real.waiting();
            case "earliest": return real.earliest();
            case "kindOf": return real.kindOf(a);
            case "between": return real.between(a);
            case "deliver": return real.deliver(a);
            case "lose": return real.lose(a);
            case "copy": return real.copy(a);
            case "write": return real.write(a, b, c);
            case "reshape": return real.reshape(a, b, c > 0);
            case "change": return real.change(a, b);
            case "hasLease": return real.hasLease(a);
            case "readByLease": return real.readByLease(a, b);
            case "askRead": return real.askRead(a, b);
            case "readState": return real.readState(a);
            case "readValue": return real.readValue(a);
            case "readStale": return real.readStale(a, b);
            case "rangeOf": return real.rangeOf(a, b);
            case "load": return real.load(a, b);
            case "history": return real.history();
            case "valueByHistory": return real.valueByHistory(a);
            case "delivered": return real.delivered();
            case "refusedShare": return real.refusedShare();
            case "meanLast": return real.meanLast();
            default: return real.isSound();
        }
    }

    private Object ofModel(int what, int a, int b, int c) {
        switch (NAMES[what]) {
            case "tick": return model.tick(a);
            case "sync": return model.sync(a);
            case "crash": return model.crash(a);
            case "start": return model.start(a);
            case "compact": return model.compact(a);
            case "role": return model.role(a);
            case "term": return model.node(a).term;
            case "vote": return model.vote(a);
            case "clock": return model.node(a).clock;
            case "last": return model.node(a).last();
            case "synced": return model.node(a).synced;
            case "committed": return model.node(a).committed;
            case "snapshot": return model.node(a).snap.index();
            case "members": return model.node(a).members();
            case "entryTerm": return model.entry(a, b).term();
            case "entryKind": return model.entry(a, b).kind();
            case "waiting": return model.queue.size();
            case "earliest": return model.earliest();
            case "kindOf": return model.message(a).kind();
            case "between": return 10 * model.message(a).from() + model.message(a).to();
            case "deliver": return model.deliver(a);
            case "lose": return model.lose(a);
            case "copy": return model.copy(a);
            case "write": return model.write(a, b, c);
            case "reshape": return model.reshape(a, b, c > 0);
            case "change": return model.change(a, b);
            case "hasLease": return model.node(a).lease();
            case "readByLease": return model.readByLease(a, b);
            case "askRead": return model.askRead(a, b);
            case "readState": return model.read(a).state;
            case "readValue": return model.readValue(a);
            case "readStale": return model.applied(a, b).values().getOrDefault(b, 0);
            case "rangeOf": return model.applied(a, b).first(b);
            case "load": return loadOf(a, b);
            case "history": return model.history.size();
            case "valueByHistory": return model.valueByHistory(a);
            case "delivered": return model.delivered;
            case "refusedShare": return model.refusedShare();
            case "meanLast": return model.meanLast();
            default: return model.isSound();
        }
    }

    private int loadOf(int node, int key) {
        PlainModel.Applied all = model.applied(node, key);
        return all.counts().get(all.first(key));
    }
}
