/** A store of keys and values taken apart into clients, masters, logs, storages and coordinators. */
public final class EpochStore {
    /** There is no such thing, or it can't be done now. */
    public static final int NONE = -1;
    /** An answer of read and range: the storage is down. */
    public static final long DOWN = 1099511627776L;
    /** An answer of read and range: the storage is not at the read version, or in the epoch, yet. */
    public static final long LATE = 1099511627777L;
    /** An answer of read and range: the read version is too old for the storage. */
    public static final long OLD = 1099511627778L;

    private static final int KEYS = 8;
    /** A storage and a resolver have the same share of the keys. */
    private static final int SHARE = 4;
    private static final int COORDINATORS = 3;
    private static final int LOGS = 3;
    private static final int STORAGES = 2;
    private static final int RESOLVERS = 2;
    private static final int CLIENTS = 3;
    private static final int MAJORITY = 2;

    private static final int FIRST_EPOCH = 1;
    private static final int LAST_EPOCH = 9;
    private static final int FIRST_END = 10;
    /** How far END grows in a recovery. */
    private static final int EPOCH_GAP = 10;
    /** How many versions back a transaction may still read and commit. */
    private static final int WINDOW = 12;

    private static final int MOST_MESSAGES = 24;
    private static final int MOST_RECORDS = 100;
    private static final int MOST_QUESTIONS = 8;
    private static final int MOST_ON_WAY = 8;

    private static final int ROLE_COORDINATOR = 0;
    private static final int ROLE_LOG = 1;
    private static final int ROLE_STORAGE = 2;
    private static final int ROLE_MASTER = 3;

    private static final int ASK = 1;
    private static final int CONFIRM = 2;
    private static final int CONFIRMED = 3;
    private static final int READ_VERSION = 4;
    private static final int COMMIT = 5;
    private static final int PUSH = 6;
    private static final int ACK = 7;
    private static final int RESULT = 8;

    /** The states of a transaction; COMMITTED, CONFLICT and TOO_OLD are what a RESULT tells too. */
    private static final int NO_TRANSACTION = 0;
    private static final int ASKING = 1;
    private static final int OPEN = 2;
    private static final int PENDING = 3;
    private static final int COMMITTED = 4;
    private static final int CONFLICT = 5;
    private static final int TOO_OLD = 6;
    private static final int UNKNOWN = 7;
    private static final int DROPPED = 8;

    private static final int UP_BIT = 1 << 30;

    private final Coordinator[] coordinators = new Coordinator[COORDINATORS];
    private final Log[] logs = new Log[LOGS];
    private final Storage[] storages = new Storage[STORAGES];
    private final Client[] clients = new Client[CLIENTS];
    /** By epoch; null where there is no master, or no longer one. */
    private final Master[] masters = new Master[LAST_EPOCH + 1];
    private final Line line = new Line();

    public EpochStore() {
        for (int i = 0; i < COORDINATORS; i++) {
            coordinators[i] = new Coordinator();
        }
        for (int l = 0; l < LOGS; l++) {
            logs[l] = new Log(l);
        }
        for (int s = 0; s < STORAGES; s++) {
            storages[s] = new Storage(s);
        }
        for (int c = 0; c < CLIENTS; c++) {
            clients[c] = new Client(c);
        }
        masters[FIRST_EPOCH] = new Master(FIRST_EPOCH, (1 << LOGS) - 1, FIRST_END);
    }

    public int find(int c) {
        int epoch = epochOfMajority();
        if (!isClient(c) || epoch == NONE) {
            return NONE;
        }
        clients[c].knownEpoch = epoch;
        return epoch;
    }

    public boolean begin(int c) {
        if (!isClient(c) || clients[c].isBusy()) {
            return false;
        }
        clients[c].ask(line);
        return true;
    }

    public long read(int c, int k) {
        if (!isOpen(c) || !isKey(k)) {
            return NONE;
        }
        long value = valueFor(clients[c], k);
        if (isValue(value)) {
            clients[c].noteUnwritten(k);
        }
        return value;
    }

    public long range(int c, int from, int to) {
        if (!isOpen(c) || !isKey(from) || !isKey(to) || from > to) {
            return NONE;
        }
        int present = 0;
        for (int k = from; k <= to; k++) {
            long value = valueFor(clients[c], k);
            if (!isValue(value)) {
                return value;
            }
            if (value != 0) {
                present++;
            }
        }
        // Only now: a range that can't be read as a whole notes nothing.
        for (int k = from; k <= to; k++) {
            clients[c].noteUnwritten(k);
        }
        return present;
    }

    public boolean write(int c, int k, int v) {
        if (!isOpen(c) || !isKey(k)) {
            return false;
        }
        clients[c].writes.put(k, v);
        return true;
    }

    public boolean commit(int c) {
        if (!isOpen(c)) {
            return false;
        }
        clients[c].finish(line);
        return true;
    }

    public boolean giveUp(int c) {
        if (!isClient(c) || !clients[c].isBusy()) {
            return false;
        }
        clients[c].drop();
        return true;
    }

    public int status(int c) {
        return isClient(c) ? clients[c].code() : NONE;
    }

    public int messages() {
        return line.count;
    }

    public int message(int k) {
        return line.has(k) ? line.rows[k].code() : NONE;
    }

    public int deliver(int k) {
        if (!line.has(k)) {
            return NONE;
        }
        Message m = line.take(k);
        switch (m.type) {
            case CONFIRM:
            case PUSH:
                logs[m.number].receive(m, line);
                break;
            case READ_VERSION:
            case RESULT:
                clients[m.number].receive(m);
                break;
            default:
                if (isMaster(m.epoch)) {
                    masters[m.epoch].receive(m, line);
                }
                break;
        }
        return m.type;
    }

    public boolean lose(int k) {
        if (!line.has(k)) {
            return false;
        }
        line.take(k);
        return true;
    }

    public boolean stop(int role, int i) {
        if (role == ROLE_MASTER) {
            return stopMaster(i);
        }
        if (!isServer(role, i) || !isUp(role, i)) {
            return false;
        }
        setUp(role, i, false);
        return true;
    }

    public boolean start(int role, int i) {
        if (!isServer(role, i) || isUp(role, i)) {
            return false;
        }
        setUp(role, i, true);
        return true;
    }

    public int pull(int s, int l) {
        if (!isStorage(s) || !isLog(l)) {
            return NONE;
        }
        return storages[s].advanceFrom(logs[l]);
    }

    public int push(int e) {
        return isMaster(e) ? masters[e].pushAgain(line) : NONE;
    }

    public int recover(int l) {
        int epoch = epochOfMajority();
        if (epoch == NONE || epoch >= LAST_EPOCH || !isLog(l) || !logs[l].up || logs[l].epoch != epoch) {
            return NONE;
        }
        raiseCoordinators(epoch + 1);
        beginEpoch(epoch + 1, logs[l]);
        return epoch + 1;
    }

    public int log(int l) {
        return isLog(l) ? logs[l].code() : NONE;
    }

    public int storage(int s) {
        return isStorage(s) ? storages[s].code() : NONE;
    }

    public int master(int e) {
        return isMaster(e) ? masters[e].code() : NONE;
    }

    public int committed(int e) {
        return isMaster(e) ? masters[e].committed : NONE;
    }

    public int coordinator(int i) {
        return isCoordinator(i) ? coordinators[i].code() : NONE;
    }

    private static boolean isKey(int k) {
        return k >= 0 && k < KEYS;
    }

    private static boolean isClient(int c) {
        return c >= 0 && c < CLIENTS;
    }

    private static boolean isCoordinator(int i) {
        return i >= 0 && i < COORDINATORS;
    }

    private static boolean isLog(int l) {
        return l >= 0 && l < LOGS;
    }

    private static boolean isStorage(int s) {
        return s >= 0 && s < STORAGES;
    }

    /** DOWN, LATE and OLD lie above all ints, so no value is taken for one of them. */
    private static boolean isValue(long answer) {
        return answer < DOWN;
    }

    private boolean isMaster(int e) {
        return e >= FIRST_EPOCH && e <= LAST_EPOCH && masters[e] != null;
    }

    private boolean isOpen(int c) {
        return isClient(c) && clients[c].state == OPEN;
    }

    /** Of the roles that go down and come up again. */
    private static boolean isServer(int role, int i) {
        switch (role) {
            case ROLE_COORDINATOR:
                return isCoordinator(i);
            case ROLE_LOG:
                return isLog(i);
            case ROLE_STORAGE:
                return isStorage(i);
            default:
                return false;
        }
    }

    private boolean isUp(int role, int i) {
        switch (role) {
            case ROLE_COORDINATOR:
                return coordinators[i].up;
            case ROLE_LOG:
                return logs[i].up;
            default:
                return storages[i].up;
        }
    }

    private void setUp(int role, int i, boolean up) {
        switch (role) {
            case ROLE_COORDINATOR:
                coordinators[i].up = up;
                break;
            case ROLE_LOG:
                logs[i].up = up;
                break;
            default:
                storages[i].up = up;
                break;
        }
    }

    private boolean stopMaster(int e) {
        if (!isMaster(e)) {
            return false;
        }
        masters[e] = null;
        return true;
    }

    /** What the client's transaction sees: its own write before what is stored. */
    private long valueFor(Client client, int k) {
        if (client.writes.has(k)) {
            return client.writes.values[k];
        }
        return storages[k / SHARE].valueAt(k, client.readVersion, client.epoch);
    }

    /** The greatest epoch of the coordinators that are up, NONE when these are no majority. */
    private int epochOfMajority() {
        int up = 0;
        int greatest = NONE;
        for (int i = 0; i < COORDINATORS; i++) {
            if (coordinators[i].up) {
                up++;
                greatest = Math.max(greatest, coordinators[i].epoch);
            }
        }
        return up >= MAJORITY ? greatest : NONE;
    }

    private void raiseCoordinators(int epoch) {
        for (int i = 0; i < COORDINATORS; i++) {
            if (coordinators[i].up) {
                coordinators[i].epoch = epoch;
            }
        }
    }

    private void beginEpoch(int epoch, Log source) {
        // The source is changed with the others: what it had is kept before that.
        int base = source.end;
        int end = base + EPOCH_GAP;
        int members = 0;
        for (int l = 0; l < LOGS; l++) {
            if (logs[l].up) {
                logs[l].copyFrom(source);
                logs[l].enter(epoch, base, end);
                members |= 1 << l;
            }
        }
        masters[epoch] = new Master(epoch, members, end);
    }

    private static final class Coordinator {
        boolean up = true;
        int epoch = FIRST_EPOCH;

        int code() {
            return epoch + (up ? 16 : 0);
        }
    }

    /** Values for some keys; a key that is written with 0 is among them. */
    private static final class Writes {
        int keys;
        final int[] values = new int[KEYS];

        void put(int k, int v) {
            keys |= 1 << k;
            values[k] = v;
        }

        boolean has(int k) {
            return (keys & (1 << k)) != 0;
        }
    }

    /** A record, with the version of the record that its master pushed before it. Never changed. */
    private static final class Entry {
        final int version;
        final int before;
        final Writes writes;

        Entry(int version, int before, Writes writes) {
            this.version = version;
            this.before = before;
            this.writes = writes;
        }
    }

    private static final class Message {
        int type;
        /** Of the client or log that it is for or from. */
        int number;
        /** Of its master. */
        int epoch;
        int version;
        int transaction;
        int question;
        int result;
        int noted;
        Writes writes;
        Entry entry;

        void reset(int type, int number, int epoch) {
            this.type = type;
            this.number = number;
            this.epoch = epoch;
            version = 0;
            transaction = 0;
            question = 0;
            result = 0;
            noted = 0;
            writes = null;
            entry = null;
        }

        int code() {
            return type + 16 * number + 256 * epoch + 65536 * version;
        }
    }

    /** The messages, in rows that are used again. */
    private static final class Line {
        /** One row more than messages: the one that was taken lies there, out of the way of its answers. */
        final Message[] rows = new Message[MOST_MESSAGES + 1];
        /** Filled in by the sender like any other, but in no line. */
        final Message lost = new Message();
        int count;

        Line() {
            for (int i = 0; i <= MOST_MESSAGES; i++) {
                rows[i] = new Message();
            }
        }

        boolean has(int k) {
            return k >= 0 && k < count;
        }

        /** The message that is sent, for its sender to fill in. */
        Message send(int type, int number, int epoch) {
            Message m = lost;
            if (count < MOST_MESSAGES) {
                m = rows[count];
                count++;
            }
            m.reset(type, number, epoch);
            return m;
        }

        Message take(int k) {
            Message taken = rows[k];
            for (int i = k; i < MOST_MESSAGES; i++) {
                rows[i] = rows[i + 1];
            }
            rows[MOST_MESSAGES] = taken;
            count--;
            return taken;
        }
    }

    /** A transaction's wish for a version; the number tells it from all others of its master. */
    private static final class Question {
        final int number;
        final int client;
        final int transaction;
        /** A bit for each log. */
        int confirmed;

        Question(int number, int client, int transaction) {
            this.number = number;
            this.client = client;
            this.transaction = transaction;
        }
    }

    /** A record on its way, and whose it is. */
    private static final class OnWay {
        final Entry entry;
        final int client;
        final int transaction;
        /** A bit for each log. */
        int acknowledged;

        OnWay(Entry entry, int client, int transaction) {
            this.entry = entry;
            this.client = client;
            this.transaction = transaction;
        }
    }

    private static final class Master {
        final int epoch;
        /** A bit for each log. */
        final int members;
        final int start;
        int last;
        int pushed;
        int committed;
        /** Of both resolvers, by key. */
        final int[] latestWrite = new int[KEYS];
        final Question[] questions = new Question[MOST_QUESTIONS];
        int questionCount;
        int questionsEver;
        /** The oldest first. */
        final OnWay[] onWay = new OnWay[MOST_ON_WAY];
        int onWayCount;

        Master(int epoch, int members, int start) {
            this.epoch = epoch;
            this.members = members;
            this.start = start;
            last = start;
            pushed = start;
            committed = start;
            for (int k = 0; k < KEYS; k++) {
                latestWrite[k] = start;
            }
        }

        int code() {
            return questionCount + 16 * onWayCount + 256 * last;
        }

        void receive(Message m, Line line) {
            switch (m.type) {
                case ASK:
                    openQuestion(m, line);
                    break;
                case CONFIRMED:
                    takeConfirmation(m, line);
                    break;
                case COMMIT:
                    decide(m, line);
                    break;
                default:
                    takeAcknowledgement(m);
                    settle(line);
                    break;
            }
        }

        int pushAgain(Line line) {
            int sent = 0;
            for (int i = 0; i < onWayCount; i++) {
                sent += pushToOthers(onWay[i], line);
            }
            return sent;
        }

        private void openQuestion(Message m, Line line) {
            if (questionCount >= MOST_QUESTIONS) {
                return;
            }
            questionsEver++;
            questions[questionCount] = new Question(questionsEver, m.number, m.transaction);
            questionCount++;
            for (int l = 0; l < LOGS; l++) {
                if ((members & (1 << l)) != 0) {
                    line.send(CONFIRM, l, epoch).question = questionsEver;
                }
            }
        }

        private void takeConfirmation(Message m, Line line) {
            int i = placeOfQuestion(m.question);
            if (i == NONE) {
                return;
            }
            questions[i].confirmed |= 1 << m.number;
            if (questions[i].confirmed == members) {
                answer(questions[i], line);
                removeQuestion(i);
            }
        }

        private int placeOfQuestion(int number) {
            for (int i = 0; i < questionCount; i++) {
                if (questions[i].number == number) {
                    return i;
                }
            }
            return NONE;
        }

        private void answer(Question question, Line line) {
            Message m = line.send(READ_VERSION, question.client, epoch);
            m.transaction = question.transaction;
            m.version = committed;
        }

        private void removeQuestion(int place) {
            questionCount--;
            for (int i = place; i < questionCount; i++) {
                questions[i] = questions[i + 1];
            }
        }

        private void decide(Message m, Line line) {
            if (onWayCount >= MOST_ON_WAY) {
                return;
            }
            if (m.version < start || m.version < last - WINDOW) {
                sendResult(m.number, m.transaction, TOO_OLD, line);
                return;
            }
            last++;
            if (passesResolvers(m)) {
                putOnWay(m, line);
            } else {
                sendResult(m.number, m.transaction, CONFLICT, line);
            }
        }

        /** Each resolver is asked: one that finds no conflict does not know what the other finds. */
        private boolean passesResolvers(Message m) {
            boolean passes = true;
            for (int r = 0; r < RESOLVERS; r++) {
                if (findsConflict(r, m)) {
                    passes = false;
                } else {
                    letPass(r, m.writes);
                }
            }
            return passes;
        }

        private boolean findsConflict(int resolver, Message m) {
            for (int k = resolver * SHARE; k < (resolver + 1) * SHARE; k++) {
                if ((m.noted & (1 << k)) != 0 && latestWrite[k] > m.version) {
                    return true;
                }
            }
            return false;
        }

        private void letPass(int resolver, Writes writes) {
            for (int k = resolver * SHARE; k < (resolver + 1) * SHARE; k++) {
                if (writes.has(k)) {
                    latestWrite[k] = last;
                }
            }
        }

        private void putOnWay(Message m, Line line) {
            OnWay way = new OnWay(new Entry(last, pushed, m.writes), m.number, m.transaction);
            onWay[onWayCount] = way;
            onWayCount++;
            pushToOthers(way, line);
            pushed = last;
        }

        /** To the logs that have not acknowledged it; answers how many. */
        private int pushToOthers(OnWay way, Line line) {
            int sent = 0;
            for (int l = 0; l < LOGS; l++) {
                if ((members & ~way.acknowledged & (1 << l)) != 0) {
                    Message m = line.send(PUSH, l, epoch);
                    m.version = way.entry.version;
                    m.entry = way.entry;
                    sent++;
                }
            }
            return sent;
        }

        private void takeAcknowledgement(Message m) {
            for (int i = 0; i < onWayCount; i++) {
                if (onWay[i].entry.version == m.version) {
                    onWay[i].acknowledged |= 1 << m.number;
                }
            }
        }

        /** Commits from the oldest on, as far as all logs have acknowledged. */
        private void settle(Line line) {
            int done = 0;
            while (done < onWayCount && onWay[done].acknowledged == members) {
                OnWay way = onWay[done];
                committed = way.entry.version;
                sendResult(way.client, way.transaction, COMMITTED, line).version = committed;
                done++;
            }
            removeOldestOnWay(done);
        }

        private void removeOldestOnWay(int done) {
            onWayCount -= done;
            for (int i = 0; i < onWayCount; i++) {
                onWay[i] = onWay[i + done];
            }
        }

        private Message sendResult(int client, int transaction, int result, Line line) {
            Message m = line.send(RESULT, client, epoch);
            m.transaction = transaction;
            m.result = result;
            return m;
        }
    }

    private static final class Log {
        final int number;
        boolean up = true;
        int epoch = FIRST_EPOCH;
        int end = FIRST_END;
        /** By epoch, up to its own. */
        final int[] bases = new int[LAST_EPOCH + 1];
        final Entry[] records = new Entry[MOST_RECORDS];
        int count;

        Log(int number) {
            this.number = number;
        }

        int code() {
            return count + 128 * epoch + 2048 * end + (up ? UP_BIT : 0);
        }

        void receive(Message m, Line line) {
            if (!up || m.epoch != epoch) {
                return;
            }
            if (m.type == CONFIRM) {
                line.send(CONFIRMED, number, epoch).question = m.question;
            } else if (takeRecord(m.entry)) {
                line.send(ACK, number, epoch).version = m.version;
            }
        }

        /** Whether the log has the record, now or from before. */
        private boolean takeRecord(Entry entry) {
            if (entry.before == end && count < MOST_RECORDS) {
                records[count] = entry;
                count++;
                end = entry.version;
            }
            return entry.version <= end;
        }

        void copyFrom(Log source) {
            for (int i = 0; i < source.count; i++) {
                records[i] = source.records[i];
            }
            count = source.count;
            for (int e = 0; e <= LAST_EPOCH; e++) {
                bases[e] = source.bases[e];
            }
        }

        void enter(int newEpoch, int base, int newEnd) {
            epoch = newEpoch;
            bases[newEpoch] = base;
            end = newEnd;
        }

        /** The first record above the version; null if there is none. */
        Entry firstAbove(int version) {
            for (int i = 0; i < count; i++) {
                if (records[i].version > version) {
                    return records[i];
                }
            }
            return null;
        }
    }

    private static final class Storage {
        /** A bit for each key that it has. */
        final int ownKeys;
        boolean up = true;
        int epoch = FIRST_EPOCH;
        int at = FIRST_END;
        final Entry[] records = new Entry[MOST_RECORDS];
        int count;

        Storage(int number) {
            ownKeys = ((1 << SHARE) - 1) << (number * SHARE);
        }

        int code() {
            return count + 128 * epoch + 2048 * at + (up ? UP_BIT : 0);
        }

        /** Answers the version at which it is then; NONE when it can't be done. */
        int advanceFrom(Log log) {
            if (!up || !log.up || log.epoch < epoch) {
                return NONE;
            }
            if (log.epoch > epoch) {
                goBackTo(log.bases[epoch + 1]);
                epoch = log.epoch;
            }
            Entry next = log.firstAbove(at);
            if (next != null) {
                keep(next);
                at = next.version;
            } else {
                at = Math.max(at, log.end);
            }
            return at;
        }

        /** What lies above the base was in an epoch that ended without it. */
        private void goBackTo(int base) {
            while (count > 0 && records[count - 1].version > base) {
                count--;
            }
            at = Math.min(at, base);
        }

        private void keep(Entry entry) {
            if ((entry.writes.keys & ownKeys) != 0 && count < MOST_RECORDS) {
                records[count] = entry;
                count++;
            }
        }

        /** One of its own keys, read at a version in a transaction of an epoch. */
        long valueAt(int k, int version, int transactionEpoch) {
            if (!up) {
                return DOWN;
            }
            if (at < version || epoch < transactionEpoch) {
                return LATE;
            }
            if (version < at - WINDOW) {
                return OLD;
            }
            for (int i = count - 1; i >= 0; i--) {
                if (records[i].version <= version && records[i].writes.has(k)) {
                    return records[i].writes.values[k];
                }
            }
            return 0;
        }
    }

    /** A client with its transaction. */
    private static final class Client {
        final int number;
        int knownEpoch = FIRST_EPOCH;
        int transaction;
        int state = NO_TRANSACTION;
        /** Of the transaction: what the client knew when it began. */
        int epoch = FIRST_EPOCH;
        int readVersion;
        int commitVersion;
        /** A bit for each key. */
        int noted;
        Writes writes = new Writes();

        Client(int number) {
            this.number = number;
        }

        int code() {
            return state + 16 * readVersion + 65536 * commitVersion;
        }

        boolean isBusy() {
            return state == ASKING || state == OPEN || state == PENDING;
        }

        void ask(Line line) {
            transaction++;
            state = ASKING;
            epoch = knownEpoch;
            readVersion = 0;
            commitVersion = 0;
            noted = 0;
            // New ones: records and messages may still hold the writes of earlier transactions.
            writes = new Writes();
            line.send(ASK, number, knownEpoch).transaction = transaction;
        }

        void noteUnwritten(int k) {
            if (!writes.has(k)) {
                noted |= 1 << k;
            }
        }

        void finish(Line line) {
            if (writes.keys == 0) {
                state = COMMITTED;
                return;
            }
            state = PENDING;
            Message m = line.send(COMMIT, number, knownEpoch);
            m.transaction = transaction;
            m.version = readVersion;
            m.noted = noted;
            m.writes = writes;
        }

        void drop() {
            state = state == PENDING ? UNKNOWN : DROPPED;
        }

        void receive(Message m) {
            if (m.transaction != transaction) {
                return;
            }
            if (m.type == READ_VERSION && state == ASKING) {
                state = OPEN;
                readVersion = m.version;
            } else if (m.type == RESULT && state == PENDING) {
                state = m.result;
                commitVersion = m.version;
            }
        }
    }
}
