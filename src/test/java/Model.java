import java.util.ArrayList;
import java.util.Arrays;
import java.util.HashMap;
import java.util.HashSet;
import java.util.List;
import java.util.Map;
import java.util.Set;
import java.util.TreeMap;
import java.util.TreeSet;

/**
 * The document once more, sentence by sentence and on the library's collections, for ModelTest to
 * compare the program with. A message carries what its delivery does.
 */
final class Model {
    /** What a run has come by, so that the test can tell that it was not hollow. */
    final Set<String> seen = new TreeSet<>();

    private final List<Message> line = new ArrayList<>();
    private final int[] coordinatorEpoch = {1, 1, 1};
    private final Set<Integer> coordinatorsUp = new TreeSet<>(List.of(0, 1, 2));
    private final Log[] logs = {new Log(), new Log(), new Log()};
    private final Storage[] storages = {new Storage(0), new Storage(4)};
    private final Map<Integer, Master> masters = new HashMap<>();
    private final Client[] clients = {new Client(), new Client(), new Client()};

    Model() {
        masters.put(1, new Master(1, List.of(0, 1, 2), 10));
    }

    record Message(int type, int number, int epoch, int version, Runnable effect) {
    }

    record Rec(int version, Map<Integer, Integer> values) {
    }

    private static final class Log {
        boolean up = true;
        int epoch = 1;
        List<Rec> records = new ArrayList<>();
        int end = 10;
        Map<Integer, Integer> bases = new HashMap<>(Map.of(1, 0));
    }

    private static final class Storage {
        final int firstKey;
        boolean up = true;
        int epoch = 1;
        int at = 10;
        final List<Rec> records = new ArrayList<>();

        Storage(int firstKey) {
            this.firstKey = firstKey;
        }
    }

    private static final class Question {
        final Set<Integer> confirmed = new HashSet<>();
        int client;
        Transaction transaction;
    }

    private static final class Way {
        Rec rec;
        int before;
        int client;
        Transaction transaction;
        final Set<Integer> acknowledged = new HashSet<>();
    }

    private static final class Master {
        final int epoch;
        final List<Integer> logs;
        final int start;
        int last;
        int pushed;
        int committed;
        final int[] latest = new int[8];
        final List<Question> questions = new ArrayList<>();
        final List<Way> ways = new ArrayList<>();

        Master(int epoch, List<Integer> logs, int start) {
            this.epoch = epoch;
            this.logs = logs;
            this.start = start;
            last = start;
            pushed = start;
            committed = start;
            Arrays.fill(latest, start);
        }
    }

    private static final class Transaction {
        int state = 0;
        int epoch;
        int readVersion;
        int version;
        final Set<Integer> noted = new TreeSet<>();
        final Map<Integer, Integer> writes = new TreeMap<>();
    }

    private static final class Client {
        int epoch = 1;
        Transaction transaction = new Transaction();
    }

    private void send(int type, int number, int epoch, int version, Runnable effect) {
        if (line.size() == 24) {
            seen.add("a full line");
            return;
        }
        line.add(new Message(type, number, epoch, version, effect));
    }

    private void toMaster(int type, int number, int epoch, int version, java.util.function.Consumer<Master> effect) {
        send(type, number, epoch, version, () -> {
            Master m = masters.get(epoch);
            if (m == null) {
                seen.add("a master that is not there");
            } else {
                effect.accept(m);
            }
        });
    }

    private void ask(Master m, int c, Transaction t) {
        if (m.questions.size() >= 8) {
            seen.add("8 questions");
            return;
        }
        Question q = new Question();
        q.client = c;
        q.transaction = t;
        m.questions.add(q);
        for (int l : m.logs) {
            send(2, l, m.epoch, 0, () -> confirm(m.epoch, l, q));
        }
    }

    private void confirm(int epoch, int l, Question q) {
        if (logs[l].up && logs[l].epoch == epoch) {
            toMaster(3, l, epoch, 0, m -> confirmed(m, l, q));
        } else {
            seen.add(logs[l].up ? "CONFIRM of another epoch" : "CONFIRM when down");
        }
    }

    private void confirmed(Master m, int l, Question q) {
        if (!m.questions.contains(q)) {
            seen.add("IMPOSSIBLE: a question that is done");
            return;
        }
        q.confirmed.add(l);
        if (q.confirmed.containsAll(m.logs)) {
            int version = m.committed;
            send(4, q.client, m.epoch, version, () -> readVersion(q.client, q.transaction, version));
            m.questions.remove(q);
        }
    }

    private void readVersion(int c, Transaction t, int version) {
        if (clients[c].transaction == t && t.state == 1) {
            t.state = 2;
            t.readVersion = version;
        } else {
            seen.add("a late READ VERSION");
        }
    }

    private void commitAtMaster(Master m, int c, Transaction t) {
        if (m.ways.size() >= 8) {
            seen.add("8 on their way");
            return;
        }
        if (t.readVersion < m.start || t.readVersion < m.last - 12) {
            seen.add(t.readVersion < m.start ? "too old by START" : "too old by LAST");
            result(m, c, t, 6, 0);
            return;
        }
        m.last++;
        boolean low = resolve(m, t, 0, 3);
        boolean high = resolve(m, t, 4, 7);
        if (!low || !high) {
            seen.add(low || high ? "half a conflict" : "a whole conflict");
            result(m, c, t, 5, 0);
            return;
        }
        Way w = new Way();
        w.rec = new Rec(m.last, Map.copyOf(t.writes));
        w.before = m.pushed;
        w.client = c;
        w.transaction = t;
        m.ways.add(w);
        for (int l : m.logs) {
            send(6, l, m.epoch, w.rec.version, () -> pushAtLog(m.epoch, l, w.rec, w.before));
        }
        m.pushed = m.last;
    }

    private static boolean resolve(Master m, Transaction t, int from, int to) {
        for (int k : t.noted) {
            if (k >= from && k <= to && m.latest[k] > t.readVersion) {
                return false;
            }
        }
        for (int k : t.writes.keySet()) {
            if (k >= from && k <= to) {
                m.latest[k] = m.last;
            }
        }
        return true;
    }

    private void pushAtLog(int epoch, int l, Rec rec, int before) {
        Log log = logs[l];
        if (!log.up || log.epoch != epoch) {
            seen.add(log.up ? "PUSH of another epoch" : "PUSH when down");
            return;
        }
        if (before == log.end && log.records.size() < 100) {
            log.records.add(rec);
            log.end = rec.version;
            toMaster(7, l, epoch, rec.version, m -> ack(m, l, rec.version));
        } else if (rec.version <= log.end) {
            seen.add("PUSH of what is there");
            toMaster(7, l, epoch, rec.version, m -> ack(m, l, rec.version));
        } else {
            seen.add("PUSH with a gap");
        }
    }

    private void ack(Master m, int l, int version) {
        for (Way w : m.ways) {
            if (w.rec.version == version) {
                w.acknowledged.add(l);
            }
        }
        int settled = 0;
        while (!m.ways.isEmpty() && m.ways.get(0).acknowledged.containsAll(m.logs)) {
            Way w = m.ways.remove(0);
            m.committed = w.rec.version;
            result(m, w.client, w.transaction, 4, w.rec.version);
            settled++;
        }
        if (settled > 1) {
            seen.add("several committed by one ACK");
        }
    }

    private void result(Master m, int c, Transaction t, int state, int version) {
        send(8, c, m.epoch, version, () -> {
            if (clients[c].transaction == t && t.state == 3) {
                t.state = state;
                t.version = version;
                seen.add("RESULT " + state);
            } else {
                seen.add("a late RESULT");
            }
        });
    }

    private long reading(int k, int v, int epoch) {
        Storage s = storages[k < 4 ? 0 : 1];
        if (!s.up) {
            return EpochStore.DOWN;
        }
        if (s.at < v || s.epoch < epoch) {
            seen.add(s.at < v ? "late by version" : "late by epoch");
            return EpochStore.LATE;
        }
        if (v < s.at - 12) {
            return EpochStore.OLD;
        }
        long value = 0;
        for (Rec r : s.records) {
            if (r.version <= v && r.values.containsKey(k)) {
                value = r.values.get(k);
            }
        }
        return value;
    }

    private Transaction of(int c) {
        return c < 0 || c > 2 ? null : clients[c].transaction;
    }

    private boolean isOpen(int c) {
        return of(c) != null && of(c).state == 2;
    }

    private int greatestEpoch() {
        return coordinatorsUp.stream().mapToInt(i -> coordinatorEpoch[i]).max().orElse(0);
    }

    int find(int c) {
        if (of(c) == null || coordinatorsUp.size() < 2) {
            return -1;
        }
        clients[c].epoch = greatestEpoch();
        return clients[c].epoch;
    }

    boolean begin(int c) {
        if (of(c) == null || Set.of(1, 2, 3).contains(of(c).state)) {
            return false;
        }
        Transaction t = new Transaction();
        t.state = 1;
        t.epoch = clients[c].epoch;
        clients[c].transaction = t;
        toMaster(1, c, t.epoch, 0, m -> ask(m, c, t));
        return true;
    }

    long read(int c, int k) {
        if (!isOpen(c) || k < 0 || k > 7) {
            return -1;
        }
        Transaction t = of(c);
        if (t.writes.containsKey(k)) {
            return t.writes.get(k);
        }
        long answer = reading(k, t.readVersion, t.epoch);
        if (answer <= Integer.MAX_VALUE) {
            t.noted.add(k);
            seen.add(answer == 0 ? "read nothing" : "read a value");
        } else {
            seen.add("read " + answer);
        }
        return answer;
    }

    long range(int c, int from, int to) {
        if (!isOpen(c) || from < 0 || to > 7 || from > to) {
            return -1;
        }
        Transaction t = of(c);
        Set<Integer> noted = new TreeSet<>(t.noted);
        int count = 0;
        for (int k = from; k <= to; k++) {
            long value;
            if (t.writes.containsKey(k)) {
                value = t.writes.get(k);
            } else {
                value = reading(k, t.readVersion, t.epoch);
                noted.add(k);
            }
            if (value > Integer.MAX_VALUE) {
                seen.add("range " + value);
                return value;
            }
            count += value != 0 ? 1 : 0;
        }
        t.noted.addAll(noted);
        return count;
    }

    boolean write(int c, int k, int v) {
        if (!isOpen(c) || k < 0 || k > 7) {
            return false;
        }
        of(c).writes.put(k, v);
        return true;
    }

    boolean commit(int c) {
        if (!isOpen(c)) {
            return false;
        }
        Transaction t = of(c);
        if (t.writes.isEmpty()) {
            t.state = 4;
            return true;
        }
        t.state = 3;
        if (clients[c].epoch != t.epoch) {
            seen.add("COMMIT to another master");
        }
        toMaster(5, c, clients[c].epoch, t.readVersion, m -> commitAtMaster(m, c, t));
        return true;
    }

    boolean giveUp(int c) {
        if (of(c) == null || !Set.of(1, 2, 3).contains(of(c).state)) {
            return false;
        }
        of(c).state = of(c).state == 3 ? 7 : 8;
        return true;
    }

    int status(int c) {
        Transaction t = of(c);
        return t == null ? -1 : t.state + 16 * t.readVersion + 65536 * t.version;
    }

    int messages() {
        return line.size();
    }

    private boolean isMessage(int k) {
        return k >= 0 && k < line.size();
    }

    int message(int k) {
        if (!isMessage(k)) {
            return -1;
        }
        Message m = line.get(k);
        return m.type + 16 * m.number + 256 * m.epoch + 65536 * m.version;
    }

    int deliver(int k) {
        if (!isMessage(k)) {
            return -1;
        }
        Message m = line.remove(k);
        m.effect.run();
        return m.type;
    }

    boolean lose(int k) {
        return isMessage(k) && line.remove(k) != null;
    }

    boolean stop(int role, int i) {
        return role == 3 ? masters.remove(i) != null : turn(role, i, false);
    }

    boolean start(int role, int i) {
        return turn(role, i, true);
    }

    private boolean turn(int role, int i, boolean up) {
        if (i < 0 || role < 0 || role > 2 || i > (role == 2 ? 1 : 2)) {
            return false;
        }
        boolean is = role == 0 ? coordinatorsUp.contains(i) : role == 1 ? logs[i].up : storages[i].up;
        if (is == up) {
            return false;
        }
        if (role == 1) {
            logs[i].up = up;
        } else if (role == 2) {
            storages[i].up = up;
        } else if (up) {
            coordinatorsUp.add(i);
        } else {
            coordinatorsUp.remove(i);
        }
        return true;
    }

    int pull(int s, int l) {
        if (s < 0 || s > 1 || l < 0 || l > 2) {
            return -1;
        }
        Storage storage = storages[s];
        Log log = logs[l];
        if (!storage.up || !log.up || log.epoch < storage.epoch) {
            return -1;
        }
        if (log.epoch > storage.epoch) {
            enter(storage, log);
        }
        Rec next = log.records.stream().filter(r -> r.version > storage.at).findFirst().orElse(null);
        if (next == null) {
            storage.at = Math.max(storage.at, log.end);
            return storage.at;
        }
        Map<Integer, Integer> own = new TreeMap<>(next.values);
        own.keySet().removeIf(k -> k / 4 != storage.firstKey / 4);
        if (!own.isEmpty()) {
            storage.records.add(new Rec(next.version, own));
        }
        storage.at = next.version;
        return storage.at;
    }

    private void enter(Storage storage, Log log) {
        int base = log.bases.get(storage.epoch + 1);
        int before = storage.at;
        if (storage.records.removeIf(r -> r.version > base)) {
            seen.add("records go");
        }
        if (storage.at > base) {
            seen.add("back to the base");
            storage.at = base;
        }
        if (log.epoch > storage.epoch + 1) {
            seen.add("over an epoch");
        }
        if (log.records.stream().anyMatch(r -> r.version > base && r.version <= before)) {
            seen.add("a version twice");
        }
        storage.epoch = log.epoch;
    }

    int push(int e) {
        Master m = masters.get(e);
        if (m == null) {
            return -1;
        }
        int sent = 0;
        for (Way w : m.ways) {
            for (int l : m.logs) {
                if (!w.acknowledged.contains(l)) {
                    send(6, l, e, w.rec.version, () -> pushAtLog(e, l, w.rec, w.before));
                    sent++;
                }
            }
        }
        return sent;
    }

    int recover(int l) {
        if (l < 0 || l > 2 || coordinatorsUp.size() < 2 || !logs[l].up || logs[l].epoch != greatestEpoch()
                || greatestEpoch() >= 9) {
            return -1;
        }
        int e = greatestEpoch() + 1;
        for (int i : coordinatorsUp) {
            coordinatorEpoch[i] = e;
        }
        List<Rec> records = List.copyOf(logs[l].records);
        Map<Integer, Integer> bases = new HashMap<>(logs[l].bases);
        int end = logs[l].end;
        bases.put(e, end);
        List<Integer> members = new ArrayList<>();
        for (int i = 0; i < 3; i++) {
            if (logs[i].up) {
                members.add(i);
                logs[i].records = new ArrayList<>(records);
                logs[i].bases = new HashMap<>(bases);
                logs[i].epoch = e;
                logs[i].end = end + 10;
            }
        }
        masters.put(e, new Master(e, members, end + 10));
        return e;
    }

    int log(int l) {
        return l < 0 || l > 2 ? -1 : view(logs[l].records, logs[l].epoch, logs[l].end, logs[l].up);
    }

    int storage(int s) {
        return s < 0 || s > 1 ? -1 : view(storages[s].records, storages[s].epoch, storages[s].at, storages[s].up);
    }

    private static int view(List<Rec> records, int epoch, int version, boolean up) {
        return records.size() + 128 * epoch + 2048 * version + (up ? 1 << 30 : 0);
    }

    int master(int e) {
        Master m = masters.get(e);
        return m == null ? -1 : m.questions.size() + 16 * m.ways.size() + 256 * m.last;
    }

    int committed(int e) {
        return masters.containsKey(e) ? masters.get(e).committed : -1;
    }

    int coordinator(int i) {
        return i < 0 || i > 2 ? -1 : coordinatorEpoch[i] + (coordinatorsUp.contains(i) ? 16 : 0);
    }
}
