/** Longer steps on a store, and the numbers that its views answer. */
final class Kit {
    static final int[] NO_CLIENTS = {-1, 3, 4, Integer.MIN_VALUE, Integer.MAX_VALUE};
    static final int[] NO_KEYS = {-1, 8, 9, Integer.MIN_VALUE, Integer.MAX_VALUE};
    static final int[] NO_LOGS = {-1, 3, 4, Integer.MIN_VALUE, Integer.MAX_VALUE};
    static final int[] NO_STORAGES = {-1, 2, 3, Integer.MIN_VALUE, Integer.MAX_VALUE};
    static final int UP = 1 << 30;

    private Kit() {
    }

    /** Delivers the first message of the line until there is none. */
    static void deliverAll(EpochStore x) {
        int delivered = x.deliver(0);
        for (int i = 0; i < 500 && delivered != EpochStore.NONE; i++) {
            delivered = x.deliver(0);
        }
    }

    static void loseAll(EpochStore x) {
        boolean lost = x.lose(0);
        for (int i = 0; i < 24 && lost; i++) {
            lost = x.lose(0);
        }
    }

    /** A store whose master 2 has log 0 alone; the client 0 knows it. Versions begin at 20. */
    static EpochStore withOneLog() {
        EpochStore x = new EpochStore();
        x.stop(1, 1);
        x.stop(1, 2);
        x.recover(0);
        x.find(0);
        x.pull(0, 0);
        x.pull(1, 0);
        return x;
    }

    /**
     * Like withOneLog, with client 1 open at 20 and client 2 at 21; client 0 has written key 0 in all
     * versions from 21 to the last, each with its version as the value.
     */
    static EpochStore withLast(int last) {
        EpochStore x = withOneLog();
        x.find(1);
        x.find(2);
        open(x, 1);
        put(x, 0, 0, 21);
        open(x, 2);
        for (int v = 22; v <= last; v++) {
            put(x, 0, 0, v);
        }
        return x;
    }

    /** Client c's new transaction is open, with an empty line before and after. */
    static void open(EpochStore x, int c) {
        x.begin(c);
        deliverAll(x);
    }

    static void put(EpochStore x, int c, int k, int v) {
        open(x, c);
        x.write(c, k, v);
        x.commit(c);
        deliverAll(x);
    }

    /** A write of client c that gets no further than log 2, as all other messages are lost. */
    static void toLogTwoAlone(EpochStore x, int c, int k, int v) {
        open(x, c);
        x.write(c, k, v);
        x.commit(c);
        x.deliver(0);
        x.lose(0);
        x.lose(0);
        x.deliver(0);
        x.lose(0);
        x.giveUp(c);
    }

    /** Client c reads key k, which is written already above its read version, and fails. */
    static void conflict(EpochStore x, int c, int k) {
        open(x, c);
        x.read(c, k);
        x.write(c, 7 - k, 1);
        x.commit(c);
        deliverAll(x);
    }

    /**
     * A store whose storage 0 has the record 11 and one with the version, both of log 2 alone, and is
     * there in epoch 1; then epoch 2 was begun without log 2, from version 10. Client 0 knows it.
     */
    static EpochStore withAStorageAhead(int version) {
        EpochStore x = new EpochStore();
        toLogTwoAlone(x, 1, 0, 1);
        for (int v = 12; v < version; v++) {
            conflict(x, 2, 0);
        }
        toLogTwoAlone(x, 1, 1, 2);
        x.pull(0, 2);
        x.pull(0, 2);
        x.stop(1, 2);
        x.recover(0);
        x.find(0);
        return x;
    }

    /** Clients 0 and 1 are open at 10, have written, and have sent their COMMITs. */
    static EpochStore withTwoCommits() {
        EpochStore x = new EpochStore();
        x.begin(0);
        x.begin(1);
        deliverAll(x);
        x.write(0, 0, 1);
        x.write(1, 1, 1);
        x.commit(0);
        x.commit(1);
        return x;
    }

    /** Begins and drops transactions of client c until the line has so many messages. */
    static void fillWithAsks(EpochStore x, int c, int count) {
        for (int i = x.messages(); i < count; i++) {
            x.begin(c);
            x.giveUp(c);
        }
    }

    /** A write of client 0 that its master puts on its way; the line is empty before and after. */
    static void putOnWay(EpochStore x, int k, int v) {
        open(x, 0);
        x.write(0, k, v);
        x.commit(0);
        x.deliver(0);
        loseAll(x);
        x.giveUp(0);
    }

    /** Client 0's first transaction is in the state (0: it has none); its read version, if any, is 10. */
    static EpochStore inState(int state) {
        EpochStore x = new EpochStore();
        if (state == 1) {
            x.begin(0);
        } else if (state > 1) {
            open(x, 0);
        }
        if (state == 2 || state == 8) {
            x.write(0, 1, 1);
        }
        if (state == 8) {
            x.giveUp(0);
        } else if (state > 2) {
            bringToAnEnd(x, state);
        }
        return x;
    }

    /** Client 0, which is OPEN, commits, with what it takes to come to the state. */
    private static void bringToAnEnd(EpochStore x, int state) {
        x.read(0, 2);
        x.write(0, 1, 1);
        if (state == 5) {
            put(x, 1, 2, 2);
        } else if (state == 6) {
            x.recover(0);
            x.find(0);
        }
        x.commit(0);
        if (state == 7) {
            x.giveUp(0);
        } else if (state != 3) {
            deliverAll(x);
        }
    }

    /** A store after recoveries from log 0 up to the epoch, with nothing written. */
    static EpochStore inEpoch(int epoch) {
        EpochStore x = new EpochStore();
        for (int e = 2; e <= epoch; e++) {
            x.recover(0);
        }
        return x;
    }

    /** Logs 0, 1 and 2 are in the epochs 3, 2 and 1, and up. */
    static EpochStore withThreeEpochs() {
        EpochStore x = new EpochStore();
        x.stop(1, 2);
        x.recover(0);
        x.stop(1, 1);
        x.recover(0);
        x.start(1, 1);
        x.start(1, 2);
        return x;
    }

    /** The line has a PUSH of each of the versions 11 .. 18 to each log, all of which are on their way. */
    static EpochStore withAFullLine() {
        EpochStore x = new EpochStore();
        for (int i = 0; i < 8; i++) {
            putOnWay(x, i, i + 1);
        }
        x.push(1);
        return x;
    }

    static int status(int state, int readVersion, int version) {
        return state + 16 * readVersion + 65536 * version;
    }

    static int message(int type, int number, int epoch, int version) {
        return type + 16 * number + 256 * epoch + 65536 * version;
    }

    /** A log or storage that is up. */
    static int server(int records, int epoch, int version) {
        return records + 128 * epoch + 2048 * version + UP;
    }

    static int master(int questions, int onWay, int last) {
        return questions + 16 * onWay + 256 * last;
    }

    /** All that can be seen of a store, to tell that a call changed nothing. */
    static String seen(EpochStore x) {
        StringBuilder text = new StringBuilder();
        for (int i = 0; i < 3; i++) {
            text.append(x.coordinator(i)).append(' ').append(x.log(i)).append(' ');
            text.append(x.storage(i)).append(' ').append(x.status(i)).append(' ');
        }
        for (int e = 1; e <= 9; e++) {
            text.append(x.master(e)).append(' ').append(x.committed(e)).append(' ');
        }
        for (int k = 0; k < x.messages(); k++) {
            text.append(x.message(k)).append(' ');
        }
        return text.toString();
    }
}
