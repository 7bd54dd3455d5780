/**
 * The edges of a pull: who is down, the log's epoch about the storage's, records and versions about
 * the base and about END, the first and the last key of a storage, and the numbers of storages.
 */
public final class StorageEdgesTest {
    private static final Due DUE = new Due("StorageEdgesTest");

    public static void main(String[] args) {
        eitherIsDown();
        theLogsEpochAboutTheStorages();
        recordsAboutTheBase();
        atAboutTheBase();
        atAboutTheFirstVersionOfTheNextEpoch();
        theBaseOfTheNextEpochCounts();
        aLogThatWasNotInTheNextEpoch();
        theFirstRecordAbove();
        endAboutWhatItIsAt();
        noRecordsAtAll();
        theFirstAndTheLastKey();
        numbersOfStoragesAndLogs();
        DUE.end();
    }

    private static void refused(String why, EpochStore x, int s, int l) {
        String before = Kit.seen(x);
        DUE.is("pull(" + s + ", " + l + "), " + why, x.pull(s, l), -1);
        DUE.is("nothing has changed, " + why, Kit.seen(x).equals(before), true);
    }

    private static void eitherIsDown() {
        EpochStore x = new EpochStore();
        Kit.put(x, 0, 0, 1);
        x.stop(1, 1);
        refused("the log is down", x, 0, 1);
        x.stop(2, 0);
        refused("both are down", x, 0, 1);
        x.start(1, 1);
        refused("the storage is down", x, 0, 1);
        DUE.is("the other storage is up", x.pull(1, 1), 11);
        x.start(2, 0);
        DUE.is("both are up", x.pull(0, 1), 11);
    }

    private static void theLogsEpochAboutTheStorages() {
        EpochStore x = Kit.withThreeEpochs();
        DUE.is("both in epoch 1", x.pull(0, 2), 10);
        DUE.is("storage 0 in epoch 1", x.storage(0), Kit.server(0, 1, 10));
        DUE.is("the log one above", x.pull(0, 1), 20);
        DUE.is("storage 0 in epoch 2", x.storage(0), Kit.server(0, 2, 20));
        refused("the log is one below", x, 0, 2);
        DUE.is("both in epoch 2", x.pull(0, 1), 20);
        DUE.is("the log one above", x.pull(0, 0), 30);
        refused("the log is one below", x, 0, 1);
        refused("the log is two below", x, 0, 2);
        DUE.is("storage 0 in epoch 3", x.storage(0), Kit.server(0, 3, 30));
        DUE.is("the log two above", x.pull(1, 0), 30);
        DUE.is("storage 1 in epoch 3", x.storage(1), Kit.server(0, 3, 30));
    }

    /** So many records in all logs, from 11 on, and then so many in log 2 alone. */
    private static EpochStore withRecords(int inAll, int inLogTwo) {
        EpochStore x = new EpochStore();
        for (int i = 0; i < inAll; i++) {
            Kit.put(x, 0, i % 4, i + 1);
        }
        for (int i = 0; i < inLogTwo; i++) {
            Kit.toLogTwoAlone(x, 0, i % 4, 50 + i);
        }
        return x;
    }

    private static void pullTimes(EpochStore x, int l, int times) {
        for (int i = 0; i < times; i++) {
            x.pull(0, l);
        }
    }

    /** The recovery is from log 0: the base of epoch 2 is the last version that all logs have. */
    private static void intoEpochTwo(EpochStore x) {
        x.stop(1, 2);
        x.recover(0);
    }

    private static void recordsAboutTheBase() {
        EpochStore x = withRecords(2, 0);
        pullTimes(x, 2, 2);
        intoEpochTwo(x);
        DUE.is("the base is 12", x.pull(0, 0), 22);
        DUE.is("a record at the base stays", x.storage(0), Kit.server(2, 2, 22));
        EpochStore y = withRecords(2, 1);
        pullTimes(y, 2, 3);
        DUE.is("a record at the base and one above it", y.storage(0), Kit.server(3, 1, 13));
        intoEpochTwo(y);
        DUE.is("the base is 12", y.pull(0, 0), 22);
        DUE.is("the one above it goes", y.storage(0), Kit.server(2, 2, 22));
        EpochStore z = withRecords(0, 3);
        pullTimes(z, 2, 3);
        intoEpochTwo(z);
        DUE.is("the base is 10", z.pull(0, 0), 20);
        DUE.is("all go", z.storage(0), Kit.server(0, 2, 20));
    }

    /** Below the base it goes on with the next record; at the base and above it, it has them all. */
    private static void atAboutTheBase() {
        for (int pulls = 0; pulls <= 3; pulls++) {
            EpochStore x = withRecords(2, 1);
            pullTimes(x, 2, pulls);
            DUE.is("at in epoch 1", x.storage(0), Kit.server(pulls, 1, 10 + pulls));
            intoEpochTwo(x);
            boolean below = pulls < 2;
            DUE.is("from " + (10 + pulls) + " with the base 12", x.pull(0, 0), below ? 11 + pulls : 22);
            DUE.is("then", x.storage(0), below ? Kit.server(pulls + 1, 2, 11 + pulls) : Kit.server(2, 2, 22));
        }
    }

    /** It is at, or one about, the first version of epoch 2, and gets that epoch's record all the same. */
    private static void atAboutTheFirstVersionOfTheNextEpoch() {
        for (int version = 20; version <= 22; version++) {
            EpochStore x = Kit.withAStorageAhead(version);
            DUE.is("in epoch 1", x.storage(0), Kit.server(2, 1, version));
            Kit.put(x, 0, 2, 3);
            DUE.is("the record of epoch 2", x.status(0), Kit.status(4, 20, 21));
            DUE.is("back to 10 and on to it", x.pull(0, 1), 21);
            DUE.is("it is the only one", x.storage(0), Kit.server(1, 2, 21));
        }
    }

    /** The base of epoch 2 is 10, that of epoch 3 is 21, and the storage has 11 of epoch 1. */
    private static void theBaseOfTheNextEpochCounts() {
        EpochStore x = withRecords(0, 1);
        pullTimes(x, 2, 1);
        intoEpochTwo(x);
        x.find(0);
        Kit.put(x, 0, 1, 7);
        x.recover(1);
        DUE.is("in epoch 1", x.storage(0), Kit.server(1, 1, 11));
        DUE.is("back to 10, then the record of epoch 2", x.pull(0, 0), 21);
        DUE.is("in epoch 3", x.storage(0), Kit.server(1, 3, 21));
    }

    /** Log 2 was down when epoch 2 began: it has that epoch's base from the recovery after it. */
    private static void aLogThatWasNotInTheNextEpoch() {
        EpochStore x = withRecords(1, 1);
        pullTimes(x, 2, 2);
        intoEpochTwo(x);
        x.start(1, 2);
        x.recover(1);
        DUE.is("log 2 has what log 1 has", x.log(2), Kit.server(1, 3, 31));
        DUE.is("in epoch 1", x.storage(0), Kit.server(2, 1, 12));
        DUE.is("back to 11, then to END", x.pull(0, 2), 31);
        DUE.is("the record above the base is gone", x.storage(0), Kit.server(1, 3, 31));
    }

    private static void theFirstRecordAbove() {
        EpochStore x = withRecords(3, 0);
        for (int v = 11; v <= 13; v++) {
            DUE.is("one record a pull", x.pull(0, v % 3), v);
            DUE.is("it is kept", x.storage(0), Kit.server(v - 10, 1, v));
        }
        DUE.is("the last one is not above itself", x.pull(0, 0), 13);
        DUE.is("it is kept once", x.storage(0), Kit.server(3, 1, 13));
    }

    private static void endAboutWhatItIsAt() {
        EpochStore x = withRecords(1, 1);
        pullTimes(x, 2, 1);
        DUE.is("END of log 0 is what it is at", x.pull(0, 0), 11);
        DUE.is("nothing has changed", x.storage(0), Kit.server(1, 1, 11));
        DUE.is("END of log 2 is above", x.pull(0, 2), 12);
        DUE.is("END of log 0 is below", x.pull(0, 0), 12);
        DUE.is("nothing has changed", x.storage(0), Kit.server(2, 1, 12));
        EpochStore y = Kit.inEpoch(2);
        DUE.is("END is above, without a record", y.pull(0, 0), 20);
        DUE.is("it is at END", y.storage(0), Kit.server(0, 2, 20));
    }

    private static void noRecordsAtAll() {
        EpochStore x = new EpochStore();
        String before = Kit.seen(x);
        for (int l = 0; l < 3; l++) {
            DUE.is("storage 0, log " + l, x.pull(0, l), 10);
            DUE.is("storage 1, log " + l, x.pull(1, l), 10);
        }
        DUE.is("nothing has changed", Kit.seen(x).equals(before), true);
    }

    /** A record of another's key alone is passed by. */
    private static void theFirstAndTheLastKey() {
        for (int k = 0; k < 8; k++) {
            EpochStore x = new EpochStore();
            Kit.put(x, 0, k, 1);
            for (int s = 0; s < 2; s++) {
                DUE.is("storage " + s + ", key " + k, x.pull(s, 0), 11);
                boolean own = s == 0 ? k <= 3 : k >= 4;
                DUE.is("kept by " + s + ", key " + k, x.storage(s), Kit.server(own ? 1 : 0, 1, 11));
            }
        }
    }

    private static void numbersOfStoragesAndLogs() {
        for (int s : Kit.NO_STORAGES) {
            EpochStore x = withRecords(1, 0);
            refused("no such storage", x, s, 0);
            DUE.is("storage(" + s + ")", x.storage(s), -1);
        }
        for (int l : Kit.NO_LOGS) {
            EpochStore x = withRecords(1, 0);
            refused("no such log", x, 0, l);
            refused("no such log", x, 1, l);
        }
        EpochStore y = new EpochStore();
        y.stop(2, 1);
        DUE.is("storage(0), up", y.storage(0), Kit.server(0, 1, 10));
        DUE.is("storage(1), down", y.storage(1), Kit.server(0, 1, 10) - Kit.UP);
    }
}
