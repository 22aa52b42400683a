import java.util.NoSuchElementException;

/**
 * A replicated log of five nodes, as ../shared/DOC.md tells it. The caller moves everything: nodes tick, sync, crash
 * and start only when asked to, and a message arrives only when it is delivered.
 */
public final class QuorumAlmanac {
    private static final int NODES = 5;
    private static final int ALL_NODES = 31;
    private static final int KEYS = 20;
    private static final int VALUE_LIMIT = 999;
    private static final int LOG_LIMIT = 80;
    /** Indexes run from 1 to 81: a 'j' is proposed up to 79, its 'n' may come behind a log that goes to 80. */
    private static final int LOG_ROOM = 84;
    private static final int APPEND_LIMIT = 4;
    private static final int QUEUE_LIMIT = 60;
    private static final int READS_WAITING_LIMIT = 12;
    /** A call begins at most one round and asks for at most one read; past 512 calls all is free. */
    private static final int CALL_ROOM = 520;
    private static final int CLOCK_DRIFT = 2;
    private static final int ELECTION_TICKS = 10;
    private static final int ROUND_TICKS = 3;
    private static final int LEASE_TICKS = 6;
    private static final int NONE = -1;

    private static final char FOLLOWER = 'f';
    private static final char CANDIDATE = 'c';
    private static final char LEADER = 'l';
    private static final char DOWN = 'd';

    private static final char WRITE = 'w';
    private static final char SPLIT = 's';
    private static final char MERGE = 'm';
    private static final char JOINT = 'j';
    private static final char NEW_MEMBERS = 'n';
    private static final char NOTHING = 'o';

    private static final char WISH = 'v';
    private static final char WISH_ANSWER = 'y';
    private static final char APPEND = 'a';
    private static final char ROUND_ANSWER = 'k';
    private static final char SNAPSHOT = 's';

    private static final char AGREES = 'a';
    private static final char REFUSES = 'r';
    private static final char TELLS_TERM = 't';

    private static final char READ_WAITS = 'w';
    private static final char READ_READY = 'r';
    private static final char READ_LOST = 'l';

    /** Never changed once made, so that logs, messages and the history may share one. */
    private static final class Entry {
        private final int term;
        private final char kind;
        /** The key, or the old set of a 'j', or the set of an 'n'. */
        private final int first;
        /** The value of a 'w', or the new set of a 'j' or an 'n'. */
        private final int second;

        private Entry(int term, char kind, int first, int second) {
            this.term = term;
            this.kind = kind;
            this.first = first;
            this.second = second;
        }

        private boolean tellsMembers() {
            return kind == JOINT || kind == NEW_MEMBERS;
        }

        private boolean isSame(Entry other) {
            return other != null && term == other.term && tellsSame(other);
        }

        private boolean tellsSame(Entry other) {
            return other != null && kind == other.kind && first == other.first && second == other.second;
        }
    }

    /** The keys with their values, and the ranges between the splits. */
    private static final class Store {
        private final int[] values = new int[KEYS];
        /** The count of a range stands at its first key; it is 0 at all others. */
        private final int[] counts = new int[KEYS];
        private final boolean[] begins = new boolean[KEYS];

        private Store() {
            begins[0] = true;
        }

        private int firstKeyOf(int key) {
            int first = key;
            while (first > 0 && !begins[first]) {
                first--;
            }
            return first;
        }

        private void applyEntry(Entry entry) {
            if (entry == null || !isKey(entry.first)) {
                return;
            }
            if (entry.kind == WRITE) {
                values[entry.first] = entry.second;
                counts[firstKeyOf(entry.first)]++;
            } else if (entry.kind == SPLIT) {
                splitAhead(entry.first);
            } else if (entry.kind == MERGE) {
                mergeAt(entry.first);
            }
        }

        private void splitAhead(int key) {
            if (!begins[key]) {
                counts[firstKeyOf(key)] = 0;
                begins[key] = true;
            }
        }

        private void mergeAt(int key) {
            if (key > 0 && begins[key]) {
                begins[key] = false;
                counts[firstKeyOf(key)] += counts[key];
                counts[key] = 0;
            }
        }

        private void empty() {
            for (int key = 0; key < KEYS; key++) {
                values[key] = 0;
                counts[key] = 0;
                begins[key] = key == 0;
            }
        }

        private void takeFrom(Store other) {
            for (int key = 0; key < KEYS; key++) {
                values[key] = other.values[key];
                counts[key] = other.counts[key];
                begins[key] = other.begins[key];
            }
        }

        private boolean isSame(Store other) {
            for (int key = 0; key < KEYS; key++) {
                if (values[key] != other.values[key] || counts[key] != other.counts[key]
                    || begins[key] != other.begins[key]) {
                    return false;
                }
            }
            return true;
        }
    }

    /** What stands in place of all entries up to an index; never changed once made. */
    private static final class Snapshot {
        private final int index;
        private final int term;
        /** The latest 'j' or 'n' up to the index. */
        private final Entry setting;
        private final Store store = new Store();

        private Snapshot(int index, int term, Entry setting, Store applied) {
            this.index = index;
            this.term = term;
            this.setting = setting;
            this.store.takeFrom(applied);
        }
    }

    /** Entries by their index behind a snapshot; the snapshot of index 0 tells the state at first. */
    private static final class Log {
        /** Those from behind the snapshot up to the end count; others may stand where entries once were. */
        private final Entry[] entries = new Entry[LOG_ROOM];
        private Snapshot base;
        private int end = 0;
        private int durable = 0;
        /** The latest 'j' or 'n', and its index; the latter is not greater than the snapshot's if it is told there. */
        private Entry setting;
        private int settingIndex = 0;

        private Log(Snapshot base) {
            this.base = base;
            this.setting = base.setting;
        }

        private Entry at(int index) {
            if (index <= base.index || index > end || index >= LOG_ROOM) {
                return null;
            }
            return entries[index];
        }

        private int termAt(int index) {
            if (index == base.index) {
                return base.term;
            }
            Entry entry = at(index);
            return entry == null ? NONE : entry.term;
        }

        private void add(Entry entry) {
            if (entry == null || end + 1 >= LOG_ROOM) {
                return;
            }
            end++;
            entries[end] = entry;
            if (entry.tellsMembers()) {
                setting = entry;
                settingIndex = end;
            }
        }

        private void cutFrom(int index) {
            end = Math.min(end, Math.max(index - 1, base.index));
            durable = Math.min(durable, end);
            settingIndex = latestSetting(end);
            setting = settingAt(settingIndex);
        }

        /** The index of the latest 'j' or 'n' up to the limit; that of the snapshot if it is told there. */
        private int latestSetting(int limit) {
            for (int i = Math.min(limit, end); i > base.index; i--) {
                Entry entry = at(i);
                if (entry != null && entry.tellsMembers()) {
                    return i;
                }
            }
            return base.index;
        }

        private Entry settingAt(int index) {
            Entry entry = at(index);
            return entry == null ? base.setting : entry;
        }

        /** The snapshot takes the place of the entries up to its index; those behind stay. */
        private void cutShort(Snapshot snapshot) {
            base = snapshot;
            end = Math.max(end, snapshot.index);
            durable = Math.max(durable, snapshot.index);
        }

        /** The snapshot becomes the whole log. */
        private void replaceBy(Snapshot snapshot) {
            base = snapshot;
            end = snapshot.index;
            durable = snapshot.index;
            setting = snapshot.setting;
            settingIndex = snapshot.index;
        }
    }

    /** What a leader knows of its rounds and of the others; used again whenever its node becomes a leader. */
    private static final class Lead {
        private int round = 0;
        /** The clock at which each round was begun. */
        private final int[] began = new int[CALL_ROOM];
        private final int[] next = new int[NODES];
        private final int[] agreed = new int[NODES];
        private final int[] answered = new int[NODES];

        private void beginAnew(int nextIndex) {
            round = 0;
            for (int i = 0; i < NODES; i++) {
                next[i] = nextIndex;
                agreed[i] = 0;
                answered[i] = 0;
            }
        }
    }

    private static final class Node {
        private final int number;
        private final Log log;
        private final Store store = new Store();
        private final Lead lead = new Lead();
        private char role = FOLLOWER;
        private int term = 0;
        private int vote = NONE;
        /** The set of those that voted for it as a candidate. */
        private int votes = 0;
        private int clock = 0;
        private int heard = 0;
        /** The clock at its last append, snapshot or start; while it is recent, wishes are not heeded. */
        private int contact = NONE;
        /** The leader of its term, once one was heard; not itself. */
        private int leader = NONE;
        /** The index up to which it knows that it agrees with the leader of its term. */
        private int agreed = 0;
        /** The last round that it got from that leader. */
        private int lastRound = 0;
        private int committed = 0;
        /** The term of the last entry that it has applied; a later leader may have cut it off since. */
        private int appliedTerm = 0;

        private Node(int number, Snapshot base) {
            this.number = number;
            this.log = new Log(base);
        }

        private void forgetLeader() {
            leader = NONE;
            agreed = 0;
        }

        /** It knows the entries of its snapshot to be committed, and no others. */
        private void knowSnapshot() {
            committed = log.base.index;
            appliedTerm = log.base.term;
            store.takeFrom(log.base.store);
        }

        private int lastTerm() {
            return log.termAt(log.end);
        }
    }

    private static final class Message {
        private final int number;
        private final char kind;
        private final int from;
        private final int to;
        private final int term;
        private int round = 0;
        /** The last index of a wish, the one ahead of the entries of an append, the one an answer tells. */
        private int index = 0;
        /** The term of the entry at this index, in a wish and an append. */
        private int entryTerm = 0;
        private int committed = 0;
        private boolean isVote = false;
        /** What an answer to a round is: it agrees, refuses, or tells a term alone. */
        private char answer = AGREES;
        private Entry[] entries = null;
        private Snapshot snapshot = null;

        private Message(int number, char kind, int from, int to, int term) {
            this.number = number;
            this.kind = kind;
            this.from = from;
            this.to = to;
            this.term = term;
        }

        private void takeContent(Message other) {
            round = other.round;
            index = other.index;
            entryTerm = other.entryTerm;
            committed = other.committed;
            isVote = other.isVote;
            answer = other.answer;
            entries = other.entries;
            snapshot = other.snapshot;
        }
    }

    private static final class Read {
        private final int node;
        private final int key;
        /** The round of that leader that was begun as it was asked. */
        private final int round;
        /** How long the history was as it was asked, and the value by it. */
        private final int askedAt;
        private final int askedValue;
        private char state = READ_WAITS;
        private int value = 0;

        private Read(int node, int key, int round, int askedAt, int askedValue) {
            this.node = node;
            this.key = key;
            this.round = round;
            this.askedAt = askedAt;
            this.askedValue = askedValue;
        }
    }

    private final Node[] nodes = new Node[NODES];
    private final Message[] queue = new Message[QUEUE_LIMIT];
    private int queued = 0;
    private int nextMessage = 0;
    private final Read[] reads = new Read[CALL_ROOM];
    private int readCount = 0;
    /** The entries that some node knew to be committed, by their index. */
    private final Entry[] told = new Entry[LOG_ROOM];
    private int toldCount = 0;
    private final Store toldStore = new Store();
    /** For checks alone: made once, as all calls share one room. */
    private final Store replayed = new Store();
    private final Entry firstSetting;
    private long deliveredCount = 0;
    private long refusedCount = 0;
    private boolean areReadsSound = true;

    public QuorumAlmanac(int members) {
        int set = Math.min(Math.max(members, 1), ALL_NODES);
        firstSetting = new Entry(0, NEW_MEMBERS, set, set);
        Snapshot base = new Snapshot(0, 0, firstSetting, new Store());
        for (int i = 0; i < NODES; i++) {
            nodes[i] = new Node(i, base);
        }
    }

    // ---- nodes

    public int tick(int node) throws IndexOutOfBoundsException, IllegalStateException {
        Node n = runningNode(node);
        if (wouldBeTooFarAhead(n)) {
            throw new IllegalStateException("the clock would be too far ahead");
        }
        n.clock++;
        if (n.role == LEADER) {
            if (n.clock - roundBegan(n, n.lead.round) >= ROUND_TICKS) {
                beginRound(n);
            }
        } else if (isIn(n.number, knownMembers(n)) && n.clock - n.heard >= ELECTION_TICKS + n.number) {
            becomeCandidate(n);
        }
        return n.clock;
    }

    public int sync(int node) throws IndexOutOfBoundsException, IllegalStateException {
        Node n = runningNode(node);
        int fresh = n.log.end - n.log.durable;
        n.log.durable = n.log.end;
        if (n.role == LEADER) {
            commitAsLeader(n);
        } else if (n.role == FOLLOWER && n.leader != NONE) {
            answerRound(n, AGREES, Math.min(n.agreed, n.log.durable));
        }
        return fresh;
    }

    public int crash(int node) throws IndexOutOfBoundsException, IllegalStateException {
        Node n = runningNode(node);
        int lost = n.log.end - n.log.durable;
        becomeFollower(n);
        n.role = DOWN;
        n.forgetLeader();
        n.log.cutFrom(n.log.durable + 1);
        n.knowSnapshot();
        return lost;
    }

    public int start(int node) throws IndexOutOfBoundsException, IllegalStateException {
        Node n = existingNode(node);
        if (n.role != DOWN) {
            throw new IllegalStateException("the node runs");
        }
        for (int i = 0; i < NODES; i++) {
            if (nodes[i].role != DOWN) {
                n.clock = Math.max(n.clock, nodes[i].clock);
            }
        }
        n.role = FOLLOWER;
        n.heard = n.clock;
        n.contact = n.clock;
        return n.clock;
    }

    public int compact(int node) throws IndexOutOfBoundsException, IllegalStateException {
        Node n = runningNode(node);
        if (n.committed <= n.log.base.index) {
            throw new IllegalStateException("no entry is applied behind the snapshot");
        }
        // What was applied may have been cut off since: such entries are gone already.
        int gone = Math.min(n.committed, n.log.end) - n.log.base.index;
        Entry last = n.log.at(n.committed);
        int term = last == null ? n.appliedTerm : last.term;
        Entry setting = n.log.settingAt(n.log.latestSetting(n.committed));
        n.log.cutShort(new Snapshot(n.committed, term, setting, n.store));
        return gone;
    }

    public char role(int node) throws IndexOutOfBoundsException {
        return existingNode(node).role;
    }

    public int term(int node) throws IndexOutOfBoundsException {
        return existingNode(node).term;
    }

    public int vote(int node) throws IndexOutOfBoundsException, NoSuchElementException {
        Node n = existingNode(node);
        if (n.vote == NONE) {
            throw new NoSuchElementException("the node has no vote");
        }
        return n.vote;
    }

    public int clock(int node) throws IndexOutOfBoundsException {
        return existingNode(node).clock;
    }

    public int last(int node) throws IndexOutOfBoundsException {
        return existingNode(node).log.end;
    }

    public int synced(int node) throws IndexOutOfBoundsException {
        return existingNode(node).log.durable;
    }

    public int committed(int node) throws IndexOutOfBoundsException {
        return existingNode(node).committed;
    }

    public int snapshot(int node) throws IndexOutOfBoundsException {
        return existingNode(node).log.base.index;
    }

    public int members(int node) throws IndexOutOfBoundsException {
        return knownMembers(existingNode(node));
    }

    public int entryTerm(int node, int index) throws IndexOutOfBoundsException, NoSuchElementException {
        return existingEntry(node, index).term;
    }

    public char entryKind(int node, int index) throws IndexOutOfBoundsException, NoSuchElementException {
        return existingEntry(node, index).kind;
    }

    // ---- messages

    public int waiting() {
        return queued;
    }

    public int earliest() throws NoSuchElementException {
        if (queued == 0) {
            throw new NoSuchElementException("no message waits");
        }
        return queue[0].number;
    }

    public char kindOf(int message) throws NoSuchElementException {
        return queue[placeOf(message)].kind;
    }

    public int between(int message) throws NoSuchElementException {
        Message m = queue[placeOf(message)];
        return 10 * m.from + m.to;
    }

    public int deliver(int message) throws NoSuchElementException {
        int place = placeOf(message);
        Message m = queue[place];
        removeAt(place);
        Node n = nodes[m.to];
        if (n.role == DOWN) {
            return 0;
        }
        deliveredCount++;
        int before = nextMessage;
        if (m.kind == WISH) {
            takeWish(n, m);
        } else if (m.kind == WISH_ANSWER) {
            takeVote(n, m);
        } else if (m.kind == ROUND_ANSWER) {
            takeAnswer(n, m);
        } else {
            takeRound(n, m);
        }
        return nextMessage - before;
    }

    public int lose(int message) throws NoSuchElementException {
        removeAt(placeOf(message));
        return queued;
    }

    public int copy(int message) throws NoSuchElementException {
        Message m = queue[placeOf(message)];
        Message twin = post(nodes[m.from], m.to, m.kind, m.term);
        twin.takeContent(m);
        return twin.number;
    }

    // ---- proposals

    public int write(int node, int key, int value)
        throws IndexOutOfBoundsException, IllegalArgumentException, IllegalStateException {
        Node n = existingNode(node);
        if (!isKey(key) || value < -VALUE_LIMIT || value > VALUE_LIMIT) {
            throw new IllegalArgumentException("the key or the value is out of range");
        }
        needProposer(n, LOG_LIMIT);
        return propose(n, new Entry(n.term, WRITE, key, value));
    }

    public int reshape(int node, int key, boolean isSplit)
        throws IndexOutOfBoundsException, IllegalArgumentException, IllegalStateException {
        Node n = existingNode(node);
        if (!isKey(key) || key == 0) {
            throw new IllegalArgumentException("the key is out of range");
        }
        needProposer(n, LOG_LIMIT);
        return propose(n, new Entry(n.term, isSplit ? SPLIT : MERGE, key, 0));
    }

    public int change(int node, int members)
        throws IndexOutOfBoundsException, IllegalArgumentException, IllegalStateException,
        UnsupportedOperationException {
        Node n = existingNode(node);
        if (members < 1 || members > ALL_NODES) {
            throw new IllegalArgumentException("the set is out of range");
        }
        needProposer(n, LOG_LIMIT - 1);
        Entry now = n.log.setting;
        if (now.kind == JOINT || n.log.settingIndex > n.committed || !hasOwnCommitted(n)) {
            throw new UnsupportedOperationException("members can't be changed now");
        }
        return propose(n, new Entry(n.term, JOINT, now.second, members));
    }

    // ---- reads

    public boolean hasLease(int node) throws IndexOutOfBoundsException {
        return holdsLease(existingNode(node));
    }

    public int readByLease(int node, int key)
        throws IndexOutOfBoundsException, IllegalArgumentException, IllegalStateException {
        Node n = existingNode(node);
        needKey(key);
        if (!holdsLease(n)) {
            throw new IllegalStateException("the node has no lease");
        }
        int value = n.store.values[key];
        if (value != toldStore.values[key]) {
            areReadsSound = false;
        }
        return value;
    }

    public int askRead(int node, int key)
        throws IndexOutOfBoundsException, IllegalArgumentException, IllegalStateException {
        Node n = existingNode(node);
        needKey(key);
        if (n.role != LEADER || !hasOwnCommitted(n) || waitingReads() >= READS_WAITING_LIMIT
            || readCount >= CALL_ROOM) {
            throw new IllegalStateException("the node takes no read now");
        }
        beginRound(n);
        int number = readCount;
        reads[number] = new Read(n.number, key, n.lead.round, toldCount, toldStore.values[key]);
        readCount++;
        settleReads(n);
        return number;
    }

    public char readState(int read) throws NoSuchElementException {
        return existingRead(read).state;
    }

    public int readValue(int read) throws NoSuchElementException {
        Read r = existingRead(read);
        if (r.state != READ_READY) {
            throw new NoSuchElementException("the read is not ready");
        }
        return r.value;
    }

    public int readStale(int node, int key)
        throws IndexOutOfBoundsException, IllegalArgumentException, IllegalStateException {
        return appliedStore(node, key).values[key];
    }

    public int rangeOf(int node, int key)
        throws IndexOutOfBoundsException, IllegalArgumentException, IllegalStateException {
        return appliedStore(node, key).firstKeyOf(key);
    }

    public int load(int node, int key)
        throws IndexOutOfBoundsException, IllegalArgumentException, IllegalStateException {
        Store store = appliedStore(node, key);
        return store.counts[store.firstKeyOf(key)];
    }

    // ---- the history

    public int history() {
        return toldCount;
    }

    public int valueByHistory(int key) throws IllegalArgumentException {
        needKey(key);
        return toldStore.values[key];
    }

    public long delivered() {
        return deliveredCount;
    }

    public float refusedShare() throws ArithmeticException {
        if (deliveredCount == 0) {
            throw new ArithmeticException("no message was delivered");
        }
        return (float) refusedCount / (float) deliveredCount;
    }

    public double meanLast() {
        int sum = 0;
        for (int i = 0; i < NODES; i++) {
            sum += nodes[i].log.end;
        }
        return (double) sum / (double) NODES;
    }

    public boolean isSound() {
        for (int i = 0; i < NODES; i++) {
            for (int k = i + 1; k < NODES; k++) {
                if (leadSameTerm(nodes[i], nodes[k]) || !doLogsMatch(nodes[i].log, nodes[k].log)) {
                    return false;
                }
            }
            if (!isAsTold(nodes[i])) {
                return false;
            }
        }
        return areReadsSound;
    }

    // ---- looking things up

    private static boolean isKey(int key) {
        return key >= 0 && key < KEYS;
    }

    private static void needKey(int key) {
        if (!isKey(key)) {
            throw new IllegalArgumentException("there is no such key");
        }
    }

    private Node existingNode(int node) {
        if (node < 0 || node >= NODES) {
            throw new IndexOutOfBoundsException("there is no such node");
        }
        return nodes[node];
    }

    private Node runningNode(int node) {
        Node n = existingNode(node);
        if (n.role == DOWN) {
            throw new IllegalStateException("the node is down");
        }
        return n;
    }

    private Entry existingEntry(int node, int index) {
        Entry entry = existingNode(node).log.at(index);
        if (entry == null) {
            throw new NoSuchElementException("there is no such entry");
        }
        return entry;
    }

    private Store appliedStore(int node, int key) {
        Node n = existingNode(node);
        needKey(key);
        if (n.role == DOWN) {
            throw new IllegalStateException("the node is down");
        }
        return n.store;
    }

    private Read existingRead(int read) {
        if (read < 0 || read >= readCount) {
            throw new NoSuchElementException("there is no such read");
        }
        return reads[read];
    }

    private int placeOf(int message) {
        for (int i = 0; i < queued; i++) {
            if (queue[i].number == message) {
                return i;
            }
        }
        throw new NoSuchElementException("no such message waits");
    }

    // ---- the queue

    private void removeAt(int place) {
        for (int i = place; i + 1 < queued; i++) {
            queue[i] = queue[i + 1];
        }
        if (queued > 0) {
            queued--;
            queue[queued] = null;
        }
    }

    /** Puts a message behind all that wait; the caller fills in what it tells. */
    private Message post(Node from, int to, char kind, int term) {
        if (queued >= QUEUE_LIMIT) {
            removeAt(0);
        }
        Message m = new Message(nextMessage, kind, from.number, to, term);
        queue[queued] = m;
        queued++;
        nextMessage++;
        return m;
    }

    // ---- members and majorities

    private static boolean isIn(int node, int set) {
        return (set >> node & 1) == 1;
    }

    private static int knownMembers(Node n) {
        return n.log.setting.first | n.log.setting.second;
    }

    private static boolean isMostOf(int some, int set) {
        return 2 * Integer.bitCount(some & set) > Integer.bitCount(set);
    }

    /** An 'n' holds its set twice, so that one rule does for both kinds. */
    private static boolean isMajority(Node n, int some) {
        return isMostOf(some, n.log.setting.first) && isMostOf(some, n.log.setting.second);
    }

    // ---- clocks and elections

    private boolean wouldBeTooFarAhead(Node n) {
        for (int i = 0; i < NODES; i++) {
            Node other = nodes[i];
            if (i != n.number && other.role != DOWN && n.clock + 1 - other.clock > CLOCK_DRIFT) {
                return true;
            }
        }
        return false;
    }

    private void becomeCandidate(Node n) {
        becomeFollowerIn(n, n.term + 1);
        n.role = CANDIDATE;
        n.vote = n.number;
        n.votes = 1 << n.number;
        n.heard = n.clock;
        int set = knownMembers(n);
        for (int i = 0; i < NODES; i++) {
            if (i != n.number && isIn(i, set)) {
                Message wish = post(n, i, WISH, n.term);
                wish.index = n.log.end;
                wish.entryTerm = n.lastTerm();
            }
        }
        if (isMajority(n, n.votes)) {
            becomeLeader(n);
        }
    }

    private void becomeLeader(Node n) {
        n.role = LEADER;
        n.lead.beginAnew(n.log.end + 1);
        if (n.log.end < LOG_LIMIT) {
            n.log.add(new Entry(n.term, NOTHING, 0, 0));
        }
        beginRound(n);
    }

    private void becomeFollower(Node n) {
        if (n.role == LEADER) {
            loseReads(n);
        }
        n.role = FOLLOWER;
    }

    private void becomeFollowerIn(Node n, int term) {
        becomeFollower(n);
        n.term = term;
        n.vote = NONE;
        n.forgetLeader();
    }

    private void takeWish(Node n, Message m) {
        boolean isCalm = n.contact != NONE && n.clock - n.contact < ELECTION_TICKS;
        if (isCalm || holdsLease(n)) {
            return;
        }
        if (m.term > n.term) {
            becomeFollowerIn(n, m.term);
        }
        boolean isFree = n.vote == NONE || n.vote == m.from;
        boolean isVote = m.term == n.term && isFree && !isBehind(m, n);
        if (isVote) {
            n.vote = m.from;
            n.heard = n.clock;
        }
        post(n, m.from, WISH_ANSWER, n.term).isVote = isVote;
    }

    private static boolean isBehind(Message wish, Node n) {
        int ownTerm = n.lastTerm();
        return wish.entryTerm < ownTerm || wish.entryTerm == ownTerm && wish.index < n.log.end;
    }

    private void takeVote(Node n, Message m) {
        if (m.term > n.term) {
            becomeFollowerIn(n, m.term);
        } else if (n.role == CANDIDATE && m.term == n.term && m.isVote) {
            n.votes |= 1 << m.from;
            if (isMajority(n, n.votes)) {
                becomeLeader(n);
            }
        }
    }

    // ---- rounds

    private static int roundBegan(Node n, int round) {
        return round < 0 || round >= CALL_ROOM ? n.clock : n.lead.began[round];
    }

    private void beginRound(Node n) {
        Lead lead = n.lead;
        if (lead.round + 1 >= CALL_ROOM) {
            return;
        }
        lead.round++;
        lead.began[lead.round] = n.clock;
        lead.answered[n.number] = lead.round;
        int set = knownMembers(n);
        for (int i = 0; i < NODES; i++) {
            if (i != n.number && isIn(i, set)) {
                sendRound(n, i);
            }
        }
    }

    private void sendRound(Node n, int to) {
        int next = n.lead.next[to];
        if (next <= n.log.base.index) {
            Message m = post(n, to, SNAPSHOT, n.term);
            m.round = n.lead.round;
            m.snapshot = n.log.base;
            return;
        }
        Message m = post(n, to, APPEND, n.term);
        m.round = n.lead.round;
        m.index = next - 1;
        m.entryTerm = n.log.termAt(next - 1);
        m.committed = n.committed;
        m.entries = entriesFrom(n.log, next);
    }

    private static Entry[] entriesFrom(Log log, int next) {
        int count = Math.max(0, Math.min(APPEND_LIMIT, log.end - next + 1));
        Entry[] entries = new Entry[count];
        for (int i = 0; i < count; i++) {
            entries[i] = log.at(next + i);
        }
        return entries;
    }

    private int propose(Node n, Entry entry) {
        n.log.add(entry);
        beginRound(n);
        return n.log.end;
    }

    private static void needProposer(Node n, int limit) {
        if (n.role != LEADER || n.log.end >= limit) {
            throw new IllegalStateException("the node takes no proposal now");
        }
    }

    // ---- appends, snapshots and answers

    /** Takes an append or a snapshot. */
    private void takeRound(Node n, Message m) {
        if (m.term < n.term) {
            refusedCount++;
            post(n, m.from, ROUND_ANSWER, n.term).answer = TELLS_TERM;
            return;
        }
        hearLeader(n, m);
        if (m.kind == APPEND) {
            takeAppend(n, m);
        } else {
            takeSnapshot(n, m);
        }
    }

    private void hearLeader(Node n, Message m) {
        if (m.term > n.term) {
            becomeFollowerIn(n, m.term);
        } else {
            becomeFollower(n);
        }
        n.leader = m.from;
        n.lastRound = m.round;
        n.heard = n.clock;
        n.contact = n.clock;
    }

    private void takeAppend(Node n, Message m) {
        int hint = refusalHint(n.log, m);
        if (hint != NONE) {
            refusedCount++;
            answerRound(n, REFUSES, hint);
            return;
        }
        int count = m.entries == null ? 0 : m.entries.length;
        for (int i = 0; i < count; i++) {
            mergeEntry(n.log, m.index + 1 + i, m.entries[i]);
        }
        int agreed = m.index + count;
        n.agreed = Math.max(n.agreed, agreed);
        commitUpTo(n, Math.min(agreed, m.committed));
        answerRound(n, AGREES, Math.min(n.agreed, n.log.durable));
    }

    /** The hint with which an append is refused, or NONE. At the index of a snapshot, no entry is left to differ. */
    private static int refusalHint(Log log, Message m) {
        if (m.index < log.base.index) {
            return log.base.index;
        }
        if (m.index > log.end) {
            return log.end;
        }
        Entry own = log.at(m.index);
        return own == null || own.term == m.entryTerm ? NONE : m.index - 1;
    }

    private static void mergeEntry(Log log, int index, Entry entry) {
        int ownTerm = log.termAt(index);
        if (entry == null || ownTerm == entry.term) {
            return;
        }
        if (ownTerm != NONE) {
            log.cutFrom(index);
        }
        log.add(entry);
    }

    private void takeSnapshot(Node n, Message m) {
        Snapshot snapshot = m.snapshot;
        if (snapshot == null) {
            return;
        }
        if (snapshot.index > n.committed) {
            n.log.replaceBy(snapshot);
            n.knowSnapshot();
        }
        n.agreed = Math.max(n.agreed, snapshot.index);
        answerRound(n, AGREES, Math.min(n.agreed, n.log.durable));
    }

    private void answerRound(Node n, char answer, int index) {
        Message m = post(n, n.leader, ROUND_ANSWER, n.term);
        m.round = n.lastRound;
        m.answer = answer;
        m.index = index;
    }

    private void takeAnswer(Node n, Message m) {
        if (m.term > n.term) {
            becomeFollowerIn(n, m.term);
            return;
        }
        if (n.role != LEADER || m.term != n.term || m.answer == TELLS_TERM) {
            return;
        }
        Lead lead = n.lead;
        if (m.answer == REFUSES) {
            lead.next[m.from] = m.index + 1;
        } else {
            lead.agreed[m.from] = Math.max(lead.agreed[m.from], m.index);
            lead.next[m.from] = Math.max(lead.next[m.from], m.index + 1);
        }
        lead.answered[m.from] = Math.max(lead.answered[m.from], m.round);
        commitAsLeader(n);
    }

    // ---- committing and applying

    private void commitUpTo(Node n, int index) {
        int limit = Math.min(index, n.log.end);
        while (n.committed < limit) {
            n.committed++;
            Entry entry = n.log.at(n.committed);
            n.store.applyEntry(entry);
            n.appliedTerm = entry == null ? n.appliedTerm : entry.term;
            if (n.committed == toldCount + 1 && n.committed < LOG_ROOM) {
                toldCount++;
                told[toldCount] = entry;
                toldStore.applyEntry(entry);
            }
        }
    }

    private void commitAsLeader(Node n) {
        int before = n.committed;
        commitUpTo(n, majorityIndex(n));
        if (n.committed > before) {
            finishChange(n);
            if (hasAppliedLeaving(n, before)) {
                becomeFollower(n);
            }
        }
        settleReads(n);
    }

    /** The greatest index of an entry of its own term up to which a majority agrees, or 0. */
    private static int majorityIndex(Node n) {
        for (int i = n.log.end; i > n.committed; i--) {
            if (n.log.termAt(i) == n.term && isMajority(n, agreeing(n, i))) {
                return i;
            }
        }
        return 0;
    }

    private static int agreeing(Node n, int index) {
        int set = 0;
        for (int i = 0; i < NODES; i++) {
            int agreed = i == n.number ? n.log.durable : n.lead.agreed[i];
            if (agreed >= index) {
                set |= 1 << i;
            }
        }
        return set;
    }

    private static void finishChange(Node n) {
        Entry setting = n.log.setting;
        if (setting.kind == JOINT && n.log.settingIndex <= n.committed) {
            n.log.add(new Entry(n.term, NEW_MEMBERS, setting.second, setting.second));
        }
    }

    private static boolean hasAppliedLeaving(Node n, int before) {
        for (int i = before + 1; i <= n.committed; i++) {
            Entry entry = n.log.at(i);
            if (entry != null && entry.kind == NEW_MEMBERS && !isIn(n.number, entry.second)) {
                return true;
            }
        }
        return false;
    }

    // ---- leases and reads

    private static boolean hasOwnCommitted(Node n) {
        return n.log.termAt(Math.min(n.committed, n.log.end)) == n.term;
    }

    private static boolean holdsLease(Node n) {
        if (n.role != LEADER || !hasOwnCommitted(n)) {
            return false;
        }
        int round = roundOfMajority(n);
        return round > 0 && n.clock - roundBegan(n, round) < LEASE_TICKS;
    }

    /** The latest round that a majority has answered, or 0; only rounds that some node answered last can be it. */
    private static int roundOfMajority(Node n) {
        int best = 0;
        for (int i = 0; i < NODES; i++) {
            int round = n.lead.answered[i];
            if (round > best && isMajority(n, answering(n, round))) {
                best = round;
            }
        }
        return best;
    }

    private static int answering(Node n, int round) {
        int set = 0;
        for (int i = 0; i < NODES; i++) {
            if (n.lead.answered[i] >= round) {
                set |= 1 << i;
            }
        }
        return set;
    }

    private int waitingReads() {
        int count = 0;
        for (int i = 0; i < readCount; i++) {
            if (reads[i].state == READ_WAITS) {
                count++;
            }
        }
        return count;
    }

    private void settleReads(Node n) {
        if (n.role != LEADER) {
            return;
        }
        int round = roundOfMajority(n);
        for (int i = 0; i < readCount; i++) {
            Read r = reads[i];
            if (r.node == n.number && r.state == READ_WAITS && r.round <= round) {
                r.state = READ_READY;
                r.value = n.store.values[r.key];
                areReadsSound = areReadsSound && wasTold(r);
            }
        }
    }

    private void loseReads(Node n) {
        for (int i = 0; i < readCount; i++) {
            if (reads[i].node == n.number && reads[i].state == READ_WAITS) {
                reads[i].state = READ_LOST;
            }
        }
    }

    /** Whether the history had the value of this read as it was asked, or later. */
    private boolean wasTold(Read r) {
        if (r.value == r.askedValue) {
            return true;
        }
        for (int i = r.askedAt + 1; i <= toldCount && i < LOG_ROOM; i++) {
            Entry entry = told[i];
            if (entry != null && entry.kind == WRITE && entry.first == r.key && entry.second == r.value) {
                return true;
            }
        }
        return false;
    }

    // ---- soundness

    private static boolean leadSameTerm(Node a, Node b) {
        return a.role == LEADER && b.role == LEADER && a.term == b.term;
    }

    private static boolean doLogsMatch(Log a, Log b) {
        int from = Math.max(a.base.index, b.base.index) + 1;
        int common = Math.min(a.end, b.end);
        while (common >= from && a.termAt(common) != b.termAt(common)) {
            common--;
        }
        for (int i = from; i <= common; i++) {
            Entry entry = a.at(i);
            if (entry == null || !entry.isSame(b.at(i))) {
                return false;
            }
        }
        return true;
    }

    /** Whether its committed entries, and store and members of its snapshot and of now, are as the history makes them. */
    private boolean isAsTold(Node n) {
        Snapshot base = n.log.base;
        if (n.committed > toldCount) {
            return false;
        }
        replayed.empty();
        Entry setting = replay(0, base.index, firstSetting);
        if (!setting.tellsSame(base.setting) || !replayed.isSame(base.store)) {
            return false;
        }
        for (int i = base.index + 1; i <= n.committed && i < LOG_ROOM; i++) {
            Entry entry = n.log.at(i);
            if (entry == null || !entry.isSame(told[i])) {
                return false;
            }
        }
        replay(base.index, n.committed, setting);
        return replayed.isSame(n.store);
    }

    /** Applies the history behind one index up to another to the store for checks; returns the latest 'j' or 'n'. */
    private Entry replay(int from, int to, Entry settingBefore) {
        Entry setting = settingBefore;
        for (int i = from + 1; i <= to && i < LOG_ROOM; i++) {
            Entry entry = told[i];
            replayed.applyEntry(entry);
            if (entry != null && entry.tellsMembers()) {
                setting = entry;
            }
        }
        return setting;
    }
}
