/** Promises 16 and 20: pull and storage. */
public final class StorageTest {
    private static final Due DUE = new Due("StorageTest");

    public static void main(String[] args) {
        oneRecordAPull();
        keepsItsOwnKeys();
        aLogThatIsBehind();
        toTheEnd();
        intoANewEpoch();
        overTwoEpochs();
        toALogThatMissedAnEpoch();
        aheadOfTheNewEpoch();
        DUE.end();
    }

    private static void oneRecordAPull() {
        EpochStore x = new EpochStore();
        DUE.is("nothing to pull", x.pull(0, 0), 10);
        Kit.put(x, 0, 0, 1);
        Kit.put(x, 0, 1, 2);
        Kit.put(x, 0, 2, 3);
        DUE.is("a pull", x.pull(0, 2), 11);
        DUE.is("one record", x.storage(0), Kit.server(1, 1, 11));
        DUE.is("another pull, from another log", x.pull(0, 1), 12);
        DUE.is("two records", x.storage(0), Kit.server(2, 1, 12));
        DUE.is("the last", x.pull(0, 0), 13);
        DUE.is("no more", x.pull(0, 0), 13);
        DUE.is("three records", x.storage(0), Kit.server(3, 1, 13));
        DUE.is("the other storage is where it was", x.storage(1), Kit.server(0, 1, 10));
    }

    private static void keepsItsOwnKeys() {
        EpochStore x = new EpochStore();
        Kit.put(x, 0, 3, 1);
        Kit.put(x, 0, 4, 2);
        Kit.open(x, 0);
        x.write(0, 0, 3);
        x.write(0, 7, 4);
        x.commit(0);
        Kit.deliverAll(x);
        DUE.is("storage 1 passes key 3", x.pull(1, 0), 11);
        DUE.is("without a record", x.storage(1), Kit.server(0, 1, 11));
        DUE.is("and keeps key 4", x.pull(1, 0), 12);
        DUE.is("storage 0 keeps key 3", x.pull(0, 0), 11);
        DUE.is("and passes key 4", x.pull(0, 0), 12);
        DUE.is("with one record", x.storage(0), Kit.server(1, 1, 12));
        DUE.is("both keep the third: 0", x.pull(0, 0), 13);
        DUE.is("both keep the third: 1", x.pull(1, 0), 13);
        DUE.is("storage 0", x.storage(0), Kit.server(2, 1, 13));
        DUE.is("storage 1", x.storage(1), Kit.server(2, 1, 13));
    }

    private static void aLogThatIsBehind() {
        EpochStore x = new EpochStore();
        Kit.toLogTwoAlone(x, 0, 0, 1);
        DUE.is("log 0 has nothing", x.pull(0, 0), 10);
        DUE.is("log 2 has it, though it is not committed", x.pull(0, 2), 11);
        DUE.is("log 0 is behind the storage", x.pull(0, 0), 11);
        DUE.is("nothing is lost by that", x.storage(0), Kit.server(1, 1, 11));
    }

    private static void toTheEnd() {
        EpochStore x = new EpochStore();
        Kit.put(x, 0, 0, 1);
        x.recover(0);
        DUE.is("the record first", x.pull(0, 0), 11);
        DUE.is("it is in epoch 2 by then", x.storage(0), Kit.server(1, 2, 11));
        DUE.is("then END", x.pull(0, 0), 21);
        DUE.is("which is no record", x.storage(0), Kit.server(1, 2, 21));
    }

    private static void intoANewEpoch() {
        EpochStore x = new EpochStore();
        Kit.put(x, 0, 0, 1);
        Kit.toLogTwoAlone(x, 0, 0, 2);
        Kit.toLogTwoAlone(x, 0, 5, 3);
        for (int i = 0; i < 3; i++) {
            x.pull(0, 2);
            x.pull(1, 2);
        }
        DUE.is("storage 0 in epoch 1", x.storage(0), Kit.server(2, 1, 13));
        DUE.is("storage 1 in epoch 1", x.storage(1), Kit.server(1, 1, 13));
        x.stop(1, 2);
        x.recover(0);
        DUE.is("back to the base 11, then to END", x.pull(0, 0), 21);
        DUE.is("storage 0 in epoch 2", x.storage(0), Kit.server(1, 2, 21));
        DUE.is("storage 1 too", x.pull(1, 1), 21);
        DUE.is("storage 1 in epoch 2", x.storage(1), Kit.server(0, 2, 21));
        x.find(0);
        Kit.open(x, 0);
        DUE.is("what was committed", x.read(0, 0), 1);
        DUE.is("what was not", x.read(0, 5), 0);
    }

    /** The base that counts is that of epoch 2, not that of epoch 3, which is above it. */
    private static void overTwoEpochs() {
        EpochStore x = new EpochStore();
        Kit.toLogTwoAlone(x, 0, 0, 2);
        x.pull(0, 2);
        x.stop(1, 2);
        x.recover(0);
        x.find(0);
        Kit.put(x, 0, 1, 7);
        DUE.is("the log has a record of epoch 2", x.log(0), Kit.server(1, 2, 21));
        x.recover(1);
        DUE.is("the storage is in epoch 1", x.storage(0), Kit.server(1, 1, 11));
        DUE.is("back to 10, then the record of epoch 2", x.pull(0, 0), 21);
        DUE.is("in epoch 3", x.storage(0), Kit.server(1, 3, 21));
        DUE.is("then END", x.pull(0, 0), 31);
        x.find(0);
        Kit.open(x, 0);
        DUE.is("what never was committed", x.read(0, 0), 0);
        DUE.is("what was", x.read(0, 1), 7);
    }

    /** A log that was down in the first recovery gets the bases of the others in the second. */
    private static void toALogThatMissedAnEpoch() {
        EpochStore x = new EpochStore();
        Kit.put(x, 0, 0, 1);
        Kit.put(x, 0, 0, 2);
        x.stop(1, 2);
        x.recover(0);
        x.start(1, 2);
        x.recover(0);
        DUE.is("from log 1, which has seen both", x.pull(0, 1), 11);
        DUE.is("the first record", x.storage(0), Kit.server(1, 3, 11));
        EpochStore y = new EpochStore();
        Kit.put(y, 0, 0, 1);
        y.pull(0, 0);
        y.stop(1, 2);
        y.recover(0);
        y.start(1, 2);
        y.recover(0);
        DUE.is("nothing is below the base of epoch 2", y.pull(0, 2), 31);
        DUE.is("so nothing goes", y.storage(0), Kit.server(1, 3, 31));
    }

    /** The storage has a record 21 of epoch 1, and then one of epoch 2 with the same version. */
    private static void aheadOfTheNewEpoch() {
        EpochStore x = Kit.withAStorageAhead(21);
        DUE.is("two records of epoch 1", x.storage(0), Kit.server(2, 1, 21));
        Kit.put(x, 0, 2, 3);
        DUE.is("version 21 again", x.status(0), Kit.status(4, 20, 21));
        DUE.is("back to 10 and on to 21", x.pull(0, 1), 21);
        DUE.is("one record of epoch 2", x.storage(0), Kit.server(1, 2, 21));
        Kit.open(x, 0);
        DUE.is("the new one", x.read(0, 2), 3);
        DUE.is("not the old one", x.read(0, 1), 0);
    }
}
