import java.util.ArrayList;
import java.util.HashMap;
import java.util.List;
import java.util.Map;
import java.util.NoSuchElementException;
import java.util.TreeMap;
import java.util.TreeSet;

/**
 * The document written down a second time, as plainly and as slowly as can be: whatever can be found out from logs,
 * snapshots and messages is found out anew at each call. It shares no code with the program that it checks.
 */
final class PlainModel {
    record Ent(int term, char kind, int one, int two) {
    }

    /** values by key; counts by the first key of each range. */
    record Applied(TreeMap<Integer, Integer> values, TreeMap<Integer, Integer> counts) {
        Applied copied() {
            return new Applied(new TreeMap<>(values), new TreeMap<>(counts));
        }

        boolean isSame(Applied other) {
            for (int key = 0; key < 20; key++) {
                if (!values.getOrDefault(key, 0).equals(other.values.getOrDefault(key, 0))) {
                    return false;
                }
            }
            return counts.equals(other.counts);
        }

        int first(int key) {
            return counts.floorKey(key);
        }

        void take(Ent e) {
            if (e.kind == 'w') {
                values.put(e.one, e.two);
                counts.merge(first(e.one), 1, Integer::sum);
            } else if (e.kind == 's' && !counts.containsKey(e.one)) {
                counts.put(first(e.one), 0);
                counts.put(e.one, 0);
            } else if (e.kind == 'm' && counts.containsKey(e.one)) {
                int sum = counts.remove(e.one);
                counts.merge(first(e.one), sum, Integer::sum);
            }
        }
    }

    record Snap(int index, int term, Ent setting, Applied applied) {
    }

    record Msg(int number, char kind, int from, int to, int term, Map<String, Integer> told, List<Ent> entries,
        Snap snap) {
        int get(String what) {
            return told.getOrDefault(what, 0);
        }
    }

    static final class Leading {
        final List<Integer> beganAt = new ArrayList<>();
        final Map<Integer, Integer> next = new HashMap<>();
        final Map<Integer, Integer> agreed = new HashMap<>();
        final Map<Integer, Integer> answered = new HashMap<>();
    }

    static final class Nd {
        final int id;
        boolean runs = true;
        char role = 'f';
        int term;
        Integer vote;
        final TreeSet<Integer> voters = new TreeSet<>();
        int clock;
        int heard;
        Integer calmFrom;
        Integer leader;
        int agrees;
        int lastRound;
        int committed;
        int synced;
        Snap snap;
        final List<Ent> entries = new ArrayList<>();
        /** What it has applied, and the term of the last entry of this; entries of it may have been cut off since. */
        Applied applied;
        int appliedTerm;
        Leading leading;

        Nd(int id, Snap snap) {
            this.id = id;
            know(snap);
        }

        /** It knows the entries of this snapshot to be committed, and no others. */
        void know(Snap snap) {
            this.snap = snap;
            committed = snap.index;
            applied = snap.applied.copied();
            appliedTerm = snap.term;
        }

        int last() {
            return snap.index + entries.size();
        }

        boolean holds(int index) {
            return index > snap.index && index <= last();
        }

        Ent entry(int index) {
            return entries.get(index - snap.index - 1);
        }

        /** The term at this index, or -1 if neither an entry nor the snapshot tells it. */
        int termAt(int index) {
            return index == snap.index ? snap.term : holds(index) ? entry(index).term : -1;
        }

        int settingAt(int limit) {
            for (int i = Math.min(limit, last()); i > snap.index; i--) {
                if ("jn".indexOf(entry(i).kind) >= 0) {
                    return i;
                }
            }
            return snap.index;
        }

        Ent setting(int limit) {
            int at = settingAt(limit);
            return at == snap.index ? snap.setting : entry(at);
        }

        void cut(int from) {
            while (last() >= from) {
                entries.remove(entries.size() - 1);
            }
            synced = Math.min(synced, last());
        }

        int members() {
            Ent s = setting(last());
            return s.kind == 'j' ? s.one | s.two : s.two;
        }

        boolean most(TreeSet<Integer> some) {
            Ent s = setting(last());
            return mostOf(some, s.two) && (s.kind == 'n' || mostOf(some, s.one));
        }

        private static boolean mostOf(TreeSet<Integer> some, int set) {
            int all = 0;
            int those = 0;
            for (int i = 0; i < 5; i++) {
                if ((set & (1 << i)) != 0) {
                    all++;
                    those += some.contains(i) ? 1 : 0;
                }
            }
            return those > all / 2;
        }

        boolean ownCommitted() {
            for (int i = snap.index + 1; i <= committed; i++) {
                if (termAt(i) == term) {
                    return true;
                }
            }
            return snap.index > 0 && snap.term == term;
        }

        int majorityRound() {
            for (int round = leading.beganAt.size(); round >= 1; round--) {
                TreeSet<Integer> some = new TreeSet<>();
                some.add(id);
                for (int i = 0; i < 5; i++) {
                    if (i != id && leading.answered.getOrDefault(i, 0) >= round) {
                        some.add(i);
                    }
                }
                if (most(some)) {
                    return round;
                }
            }
            return 0;
        }

        boolean lease() {
            if (!runs || role != 'l' || !ownCommitted()) {
                return false;
            }
            int round = majorityRound();
            return round > 0 && clock - leading.beganAt.get(round - 1) < 6;
        }
    }

    static final class Rd {
        Nd node;
        int key;
        int round;
        char state = 'w';
        int value;
        int askedAt;
    }

    final Nd[] nodes = new Nd[5];
    final TreeMap<Integer, Msg> queue = new TreeMap<>();
    int sent;
    final List<Rd> reads = new ArrayList<>();
    final List<Ent> history = new ArrayList<>();
    long delivered;
    long refused;
    boolean readsSound = true;
    final Ent atFirst;

    PlainModel(int members) {
        int set = members < 1 ? 1 : members > 31 ? 31 : members;
        atFirst = new Ent(0, 'n', set, set);
        for (int i = 0; i < 5; i++) {
            nodes[i] = new Nd(i, new Snap(0, 0, atFirst, empty()));
        }
    }

    static Applied empty() {
        Applied all = new Applied(new TreeMap<>(), new TreeMap<>());
        all.counts.put(0, 0);
        return all;
    }

    Applied appliedHistory(int upTo) {
        Applied all = empty();
        for (int i = 0; i < upTo; i++) {
            all.take(history.get(i));
        }
        return all;
    }

    // ---- what is thrown

    Nd node(int node) {
        if (node < 0 || node > 4) {
            throw new IndexOutOfBoundsException();
        }
        return nodes[node];
    }

    static void argument(boolean isRight) {
        if (!isRight) {
            throw new IllegalArgumentException();
        }
    }

    static void state(boolean isRight) {
        if (!isRight) {
            throw new IllegalStateException();
        }
    }

    static void element(boolean isThere) {
        if (!isThere) {
            throw new NoSuchElementException();
        }
    }

    // ---- nodes

    int tick(int node) {
        Nd n = node(node);
        state(n.runs);
        for (Nd other : nodes) {
            state(other == n || !other.runs || n.clock + 1 <= other.clock + 2);
        }
        n.clock += 1;
        if (n.role == 'l') {
            if (n.clock - n.leading.beganAt.get(n.leading.beganAt.size() - 1) >= 3) {
                round(n);
            }
        } else if ((n.members() & (1 << n.id)) != 0 && n.clock - n.heard >= 10 + n.id) {
            stand(n);
        }
        return n.clock;
    }

    void stand(Nd n) {
        n.role = 'c';
        newTerm(n, n.term + 1);
        n.vote = n.id;
        n.heard = n.clock;
        n.voters.clear();
        n.voters.add(n.id);
        for (int i = 0; i < 5; i++) {
            if (i != n.id && (n.members() & (1 << i)) != 0) {
                send('v', n, i, Map.of("last", n.last(), "lastTerm", n.termAt(n.last())), null, null);
            }
        }
        if (n.most(n.voters)) {
            lead(n);
        }
    }

    void newTerm(Nd n, int term) {
        n.term = term;
        n.vote = null;
        n.leader = null;
        n.agrees = 0;
        n.lastRound = 0;
    }

    void follow(Nd n) {
        if (n.role == 'l') {
            for (Rd r : reads) {
                if (r.node == n && r.state == 'w') {
                    r.state = 'l';
                }
            }
        }
        n.role = 'f';
        n.leading = null;
    }

    void lead(Nd n) {
        n.role = 'l';
        n.leading = new Leading();
        for (int i = 0; i < 5; i++) {
            n.leading.next.put(i, n.last() + 1);
        }
        if (n.last() < 80) {
            n.entries.add(new Ent(n.term, 'o', 0, 0));
        }
        round(n);
    }

    void round(Nd n) {
        n.leading.beganAt.add(n.clock);
        int number = n.leading.beganAt.size();
        for (int i = 0; i < 5; i++) {
            if (i == n.id || (n.members() & (1 << i)) == 0) {
                continue;
            }
            int next = n.leading.next.get(i);
            if (next <= n.snap.index) {
                send('s', n, i, Map.of("round", number), null, n.snap);
            } else {
                List<Ent> some = new ArrayList<>();
                for (int k = next; k <= n.last() && k < next + 4; k++) {
                    some.add(n.entry(k));
                }
                send('a', n, i, Map.of("round", number, "ahead", next - 1, "aheadTerm", n.termAt(next - 1),
                    "committed", n.committed), some, null);
            }
        }
    }

    Msg send(char kind, Nd from, int to, Map<String, Integer> told, List<Ent> entries, Snap snap) {
        Msg m = new Msg(sent++, kind, from.id, to, from.term, told, entries, snap);
        queue.put(m.number, m);
        if (queue.size() > 60) {
            queue.remove(queue.firstKey());
        }
        return m;
    }

    int sync(int node) {
        Nd n = node(node);
        state(n.runs);
        int count = n.last() - n.synced;
        n.synced = n.last();
        if (n.role == 'l') {
            commitByMajority(n);
        } else if (n.role == 'f' && n.leader != null) {
            agree(n);
        }
        return count;
    }

    void agree(Nd n) {
        send('k', n, n.leader, Map.of("agrees", Math.min(n.agrees, n.synced), "round", n.lastRound), null, null);
    }

    int crash(int node) {
        Nd n = node(node);
        state(n.runs);
        int lost = n.last() - n.synced;
        follow(n);
        n.cut(n.synced + 1);
        n.runs = false;
        n.know(n.snap);
        n.leader = null;
        n.agrees = 0;
        n.lastRound = 0;
        return lost;
    }

    int start(int node) {
        Nd n = node(node);
        state(!n.runs);
        for (Nd other : nodes) {
            if (other.runs && other.clock > n.clock) {
                n.clock = other.clock;
            }
        }
        n.runs = true;
        n.heard = n.clock;
        n.calmFrom = n.clock;
        return n.clock;
    }

    int compact(int node) {
        Nd n = node(node);
        state(n.runs);
        state(n.committed > n.snap.index);
        int term = n.holds(n.committed) ? n.entry(n.committed).term : n.appliedTerm;
        Snap snap = new Snap(n.committed, term, n.setting(n.committed), n.applied.copied());
        int gone = 0;
        for (int i = n.snap.index; i < n.committed && !n.entries.isEmpty(); i++) {
            n.entries.remove(0);
            gone += 1;
        }
        n.know(snap);
        n.synced = Math.max(n.synced, snap.index);
        return gone;
    }

    char role(int node) {
        return node(node).runs ? nodes[node].role : 'd';
    }

    int vote(int node) {
        element(node(node).vote != null);
        return nodes[node].vote;
    }

    Ent entry(int node, int index) {
        element(node(node).holds(index));
        return nodes[node].entry(index);
    }

    // ---- messages

    Msg message(int number) {
        element(queue.containsKey(number));
        return queue.get(number);
    }

    int earliest() {
        element(!queue.isEmpty());
        return queue.firstKey();
    }

    int deliver(int message) {
        Msg m = message(message);
        queue.remove(message);
        Nd n = nodes[m.to];
        if (!n.runs) {
            return 0;
        }
        int before = sent;
        delivered += 1;
        switch (m.kind) {
            case 'v' -> wished(n, m);
            case 'y' -> voted(n, m);
            case 'k' -> answered(n, m);
            default -> appended(n, m);
        }
        return sent - before;
    }

    int lose(int message) {
        message(message);
        queue.remove(message);
        return queue.size();
    }

    int copy(int message) {
        Msg m = message(message);
        Msg twin = new Msg(sent++, m.kind, m.from, m.to, m.term, m.told, m.entries, m.snap);
        queue.put(twin.number, twin);
        if (queue.size() > 60) {
            queue.remove(queue.firstKey());
        }
        return twin.number;
    }

    void wished(Nd n, Msg m) {
        if (n.calmFrom != null && n.clock - n.calmFrom < 10 || n.lease()) {
            return;
        }
        if (m.term > n.term) {
            follow(n);
            newTerm(n, m.term);
        }
        boolean fits = m.get("lastTerm") > n.termAt(n.last())
            || m.get("lastTerm") == n.termAt(n.last()) && m.get("last") >= n.last();
        boolean yes = m.term == n.term && (n.vote == null || n.vote == m.from) && fits;
        if (yes) {
            n.vote = m.from;
            n.heard = n.clock;
        }
        send('y', n, m.from, Map.of("yes", yes ? 1 : 0), null, null);
    }

    void voted(Nd n, Msg m) {
        if (m.term > n.term) {
            follow(n);
            newTerm(n, m.term);
            return;
        }
        if (m.term == n.term && n.role == 'c' && m.get("yes") == 1) {
            n.voters.add(m.from);
            if (n.most(n.voters)) {
                lead(n);
            }
        }
    }

    void appended(Nd n, Msg m) {
        if (m.term < n.term) {
            refused += 1;
            send('k', n, m.from, Map.of("onlyTerm", 1), null, null);
            return;
        }
        follow(n);
        if (m.term > n.term) {
            newTerm(n, m.term);
        }
        n.leader = m.from;
        n.lastRound = m.get("round");
        n.heard = n.clock;
        n.calmFrom = n.clock;
        if (m.kind == 's') {
            if (m.snap.index > n.committed) {
                n.know(m.snap);
                n.entries.clear();
                n.synced = m.snap.index;
            }
            n.agrees = Math.max(n.agrees, m.snap.index);
            agree(n);
            return;
        }
        int ahead = m.get("ahead");
        Integer hint = ahead < n.snap.index ? Integer.valueOf(n.snap.index)
            : ahead > n.last() ? Integer.valueOf(n.last())
            : n.holds(ahead) && n.entry(ahead).term != m.get("aheadTerm") ? Integer.valueOf(ahead - 1) : null;
        if (hint != null) {
            refused += 1;
            send('k', n, m.from, Map.of("refused", 1, "hint", hint, "round", m.get("round")), null, null);
            return;
        }
        int at = ahead;
        for (Ent e : m.entries) {
            at += 1;
            if (n.holds(at) && n.entry(at).term != e.term) {
                n.cut(at);
            }
            if (!n.holds(at)) {
                n.entries.add(e);
            }
        }
        n.agrees = Math.max(n.agrees, at);
        commit(n, Math.min(at, m.get("committed")));
        agree(n);
    }

    void commit(Nd n, int upTo) {
        while (n.committed < upTo) {
            n.committed += 1;
            n.applied.take(n.entry(n.committed));
            n.appliedTerm = n.entry(n.committed).term;
            if (history.size() < n.committed) {
                history.add(n.entry(n.committed));
            }
        }
    }

    void answered(Nd n, Msg m) {
        if (m.term > n.term) {
            follow(n);
            newTerm(n, m.term);
            return;
        }
        if (m.term < n.term || n.role != 'l' || m.get("onlyTerm") == 1) {
            return;
        }
        Leading own = n.leading;
        if (m.get("refused") == 1) {
            own.next.put(m.from, m.get("hint") + 1);
        } else {
            own.agreed.merge(m.from, m.get("agrees"), Math::max);
            own.next.merge(m.from, m.get("agrees") + 1, Math::max);
        }
        own.answered.merge(m.from, m.get("round"), Math::max);
        commitByMajority(n);
    }

    void commitByMajority(Nd n) {
        int before = n.committed;
        int best = 0;
        for (int i = n.snap.index + 1; i <= n.last(); i++) {
            TreeSet<Integer> some = new TreeSet<>();
            for (int k = 0; k < 5; k++) {
                if ((k == n.id ? n.synced : n.leading.agreed.getOrDefault(k, 0)) >= i) {
                    some.add(k);
                }
            }
            if (n.entry(i).term == n.term && n.most(some)) {
                best = i;
            }
        }
        if (best > before) {
            commit(n, best);
            Ent s = n.setting(n.last());
            if (s.kind == 'j' && n.settingAt(n.last()) <= n.committed) {
                n.entries.add(new Ent(n.term, 'n', s.two, s.two));
            }
            for (int i = before + 1; i <= best; i++) {
                if (n.role == 'l' && n.entry(i).kind == 'n' && (n.entry(i).two & (1 << n.id)) == 0) {
                    follow(n);
                    n.leader = null;
                    n.agrees = 0;
                    n.lastRound = 0;
                }
            }
        }
        readyReads(n);
    }

    void readyReads(Nd n) {
        if (n.role != 'l') {
            return;
        }
        for (Rd r : reads) {
            if (r.node == n && r.state == 'w' && n.majorityRound() >= r.round) {
                r.state = 'r';
                r.value = n.applied.values.getOrDefault(r.key, 0);
                boolean found = false;
                for (int i = r.askedAt; i <= history.size(); i++) {
                    found |= appliedHistory(i).values.getOrDefault(r.key, 0) == r.value;
                }
                readsSound &= found;
            }
        }
    }

    // ---- proposals

    int propose(Nd n, Ent e) {
        n.entries.add(e);
        round(n);
        return n.last();
    }

    int write(int node, int key, int value) {
        Nd n = node(node);
        argument(key >= 0 && key <= 19 && value >= -999 && value <= 999);
        state(n.role == 'l' && n.last() < 80);
        return propose(n, new Ent(n.term, 'w', key, value));
    }

    int reshape(int node, int key, boolean isSplit) {
        Nd n = node(node);
        argument(key >= 1 && key <= 19);
        state(n.role == 'l' && n.last() < 80);
        return propose(n, new Ent(n.term, isSplit ? 's' : 'm', key, 0));
    }

    int change(int node, int members) {
        Nd n = node(node);
        argument(members >= 1 && members <= 31);
        state(n.role == 'l' && n.last() < 79);
        Ent s = n.setting(n.last());
        if (s.kind == 'j' || n.settingAt(n.last()) > n.committed || !n.ownCommitted()) {
            throw new UnsupportedOperationException();
        }
        return propose(n, new Ent(n.term, 'j', s.two, members));
    }

    // ---- reads

    int readByLease(int node, int key) {
        Nd n = node(node);
        argument(key >= 0 && key <= 19);
        state(n.lease());
        int value = n.applied.values.getOrDefault(key, 0);
        readsSound &= value == appliedHistory(history.size()).values.getOrDefault(key, 0);
        return value;
    }

    int askRead(int node, int key) {
        Nd n = node(node);
        argument(key >= 0 && key <= 19);
        int waits = 0;
        for (Rd r : reads) {
            waits += r.state == 'w' ? 1 : 0;
        }
        state(n.role == 'l' && n.ownCommitted() && waits < 12);
        round(n);
        Rd r = new Rd();
        r.node = n;
        r.key = key;
        r.round = n.leading.beganAt.size();
        r.askedAt = history.size();
        reads.add(r);
        readyReads(n);
        return reads.size() - 1;
    }

    Rd read(int read) {
        element(read >= 0 && read < reads.size());
        return reads.get(read);
    }

    int readValue(int read) {
        element(read(read).state == 'r');
        return reads.get(read).value;
    }

    Applied applied(int node, int key) {
        Nd n = node(node);
        argument(key >= 0 && key <= 19);
        state(n.runs);
        return n.applied;
    }

    // ---- the history

    int valueByHistory(int key) {
        argument(key >= 0 && key <= 19);
        return appliedHistory(history.size()).values.getOrDefault(key, 0);
    }

    float refusedShare() {
        if (delivered == 0) {
            throw new ArithmeticException();
        }
        return (float) refused / (float) delivered;
    }

    double meanLast() {
        double sum = 0;
        for (Nd n : nodes) {
            sum += n.last();
        }
        return sum / 5;
    }

    boolean isSound() {
        for (Nd a : nodes) {
            for (Nd b : nodes) {
                if (a != b && a.runs && b.runs && a.role == 'l' && b.role == 'l' && a.term == b.term) {
                    return false;
                }
                if (!matches(a, b)) {
                    return false;
                }
            }
            if (!isAsTold(a)) {
                return false;
            }
        }
        return readsSound;
    }

    private static boolean matches(Nd a, Nd b) {
        for (int i = 1; i <= 90; i++) {
            if (a.holds(i) && b.holds(i) && a.entry(i).term == b.entry(i).term) {
                for (int k = 1; k <= i; k++) {
                    if (a.holds(k) && b.holds(k) && !a.entry(k).equals(b.entry(k))) {
                        return false;
                    }
                }
            }
        }
        return true;
    }

    private boolean isAsTold(Nd n) {
        for (int i = n.snap.index + 1; i <= n.committed; i++) {
            if (!n.holds(i) || !n.entry(i).equals(history.get(i - 1))) {
                return false;
            }
        }
        Ent is = n.snap.setting;
        Ent due = atFirst;
        for (Ent e : history.subList(0, n.snap.index)) {
            due = e.kind == 'j' || e.kind == 'n' ? e : due;
        }
        return due.kind == is.kind && due.one == is.one && due.two == is.two && n.snap.applied.isSame(appliedHistory(n.snap.index))
            && n.applied.isSame(appliedHistory(n.committed));
    }
}
