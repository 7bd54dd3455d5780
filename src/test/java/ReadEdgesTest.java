/**
 * The edges of read and range: versions about what the storage is at and about that less 12, epochs
 * about the storage's, records about the read version, which of DOWN, LATE and OLD comes first, the
 * least and the greatest key and value, empty and full ranges.
 */
public final class ReadEdgesTest {
    private static final Due DUE = new Due("ReadEdgesTest");

    public static void main(String[] args) {
        theStorageOfAKeyIsDown();
        versionsAboutWhatItIsAt();
        epochsAboutTheTransactions();
        versionsAboutAtLessTwelve();
        downComesBeforeLateAndOld();
        recordsAboutTheReadVersion();
        aRecordWithoutTheKey();
        theLeastAndTheGreatestValue();
        whatCantBeReadIsNotNoted();
        whatIsTooOldIsNotNoted();
        nothingIsAValueToo();
        keysAboutTheLeastAndTheGreatest();
        rangesAboutTheirKeys();
        rangesOfOneKeyAndOfNone();
        emptyAndFullRanges();
        theLeastKeyThatCantBeRead();
        writtenKeysAreNotRead();
        DUE.end();
    }

    private static void theStorageOfAKeyIsDown() {
        for (int s = 0; s < 2; s++) {
            EpochStore x = new EpochStore();
            Kit.open(x, 0);
            x.stop(2, s);
            for (int k = 0; k < 8; k++) {
                boolean down = s == 0 ? k <= 3 : k >= 4;
                DUE.is("key " + k + " when " + s + " is down", x.read(0, k), down ? EpochStore.DOWN : 0);
                DUE.is("range of " + k + " when " + s + " is down", x.range(0, k, k), down ? EpochStore.DOWN : 0);
            }
            x.start(2, s);
            DUE.is("when it is up again", x.range(0, 0, 7), 0);
        }
    }

    /** Clients 0, 1 and 2 are open at 10, 11 and 12, and key 0 has been written as 11 and 12. */
    private static EpochStore withThreeReaders() {
        EpochStore x = new EpochStore();
        Kit.put(x, 1, 0, 51);
        Kit.open(x, 1);
        Kit.put(x, 2, 0, 52);
        Kit.open(x, 2);
        return x;
    }

    private static void versionsAboutWhatItIsAt() {
        EpochStore x = withThreeReaders();
        DUE.is("11 when it is at 10", x.read(1, 0), EpochStore.LATE);
        DUE.is("12 when it is at 10", x.read(2, 0), EpochStore.LATE);
        x.pull(0, 0);
        DUE.is("11 when it is at 11", x.read(1, 0), 51);
        DUE.is("12 when it is at 11", x.read(2, 0), EpochStore.LATE);
        DUE.is("a range at 12 when it is at 11", x.range(2, 0, 0), EpochStore.LATE);
        x.pull(0, 0);
        DUE.is("11 when it is at 12", x.read(1, 0), 51);
        DUE.is("12 when it is at 12", x.read(2, 0), 52);
        DUE.is("a range at 12 when it is at 12", x.range(2, 0, 0), 1);
        DUE.is("11 when the other is at 10", x.read(1, 4), EpochStore.LATE);
    }

    /**
     * Storage 0 is at 21 in epoch 1. A transaction of epoch 2 reads at 20, one of epoch 1 at 10; the
     * pull then brings the storage into epoch 2.
     */
    private static void epochsAboutTheTransactions() {
        EpochStore x = Kit.withAStorageAhead(21);
        Kit.open(x, 0);
        DUE.is("open at 20", x.status(0), Kit.status(2, 20, 0));
        DUE.is("a storage one epoch below", x.read(0, 3), EpochStore.LATE);
        DUE.is("a range there", x.range(0, 3, 3), EpochStore.LATE);
        x.pull(0, 0);
        DUE.is("a storage of its epoch", x.read(0, 3), 0);
        EpochStore y = new EpochStore();
        Kit.open(y, 0);
        y.recover(0);
        y.pull(0, 0);
        DUE.is("the storage is in epoch 2", y.storage(0), Kit.server(0, 2, 20));
        DUE.is("a storage one epoch above", y.read(0, 3), 0);
        DUE.is("a range there", y.range(0, 3, 3), 0);
    }

    /** Clients 1 and 2 are open at 20 and 21. */
    private static EpochStore withStorageAt(int version) {
        EpochStore x = Kit.withLast(version);
        for (int v = 21; v <= version; v++) {
            x.pull(0, 0);
        }
        return x;
    }

    private static void versionsAboutAtLessTwelve() {
        EpochStore x = withStorageAt(32);
        DUE.is("20 when it is at 32", x.read(1, 0), 0);
        DUE.is("a range at 20 when it is at 32", x.range(1, 0, 3), 0);
        EpochStore y = withStorageAt(33);
        DUE.is("20 when it is at 33", y.read(1, 0), EpochStore.OLD);
        DUE.is("a range at 20 when it is at 33", y.range(1, 0, 3), EpochStore.OLD);
        DUE.is("21 when it is at 33", y.read(2, 0), 21);
        DUE.is("a range at 21 when it is at 33", y.range(2, 0, 3), 1);
        DUE.is("20 when the other is at 20", y.read(1, 4), 0);
        EpochStore z = withStorageAt(34);
        DUE.is("21 when it is at 34", z.read(2, 0), EpochStore.OLD);
    }

    /**
     * LATE and OLD at once can't be: a storage of an older epoch is at most 13 above the base, and
     * what is read in the newer one is at least 10 above it.
     */
    private static void downComesBeforeLateAndOld() {
        EpochStore x = withThreeReaders();
        x.stop(2, 0);
        DUE.is("down and late", x.read(1, 0), EpochStore.DOWN);
        EpochStore y = withStorageAt(33);
        y.stop(2, 0);
        DUE.is("down and old", y.read(1, 0), EpochStore.DOWN);
        y.start(2, 0);
        DUE.is("old alone", y.read(1, 0), EpochStore.OLD);
    }

    private static void recordsAboutTheReadVersion() {
        EpochStore x = new EpochStore();
        Kit.open(x, 0);
        Kit.put(x, 1, 0, 51);
        Kit.open(x, 1);
        Kit.put(x, 2, 0, 52);
        Kit.open(x, 2);
        x.pull(0, 0);
        x.pull(0, 0);
        DUE.is("at 10, one below the first", x.read(0, 0), 0);
        DUE.is("at 11, the first's version", x.read(1, 0), 51);
        DUE.is("at 12, the second's version", x.read(2, 0), 52);
    }

    private static void aRecordWithoutTheKey() {
        EpochStore x = new EpochStore();
        Kit.put(x, 0, 0, 51);
        Kit.put(x, 0, 1, 52);
        Kit.put(x, 0, 2, 0);
        for (int i = 0; i < 3; i++) {
            x.pull(0, 0);
        }
        Kit.open(x, 0);
        DUE.is("the latest with key 0 is the first", x.read(0, 0), 51);
        DUE.is("the latest with key 1 is the second", x.read(0, 1), 52);
        DUE.is("the latest with key 2 has 0", x.read(0, 2), 0);
        DUE.is("none has key 3", x.read(0, 3), 0);
    }

    private static void theLeastAndTheGreatestValue() {
        int[] values = {Integer.MIN_VALUE, Integer.MIN_VALUE + 1, -1, 0, 1, Integer.MAX_VALUE - 1, Integer.MAX_VALUE};
        EpochStore x = new EpochStore();
        Kit.open(x, 0);
        for (int k = 0; k < values.length; k++) {
            x.write(0, k, values[k]);
            DUE.is("written", x.read(0, k), values[k]);
        }
        DUE.is("of its own", x.range(0, 0, 6), 6);
        x.commit(0);
        Kit.deliverAll(x);
        x.pull(0, 0);
        x.pull(1, 0);
        Kit.open(x, 1);
        for (int k = 0; k < values.length; k++) {
            DUE.is("stored", x.read(1, k), values[k]);
        }
        DUE.is("all but the 0", x.range(1, 0, 6), 6);
    }

    /** Client 0, open at 10 or 11, is overtaken at key 3, which it could not read. */
    private static int stateWhenOvertaken(EpochStore x) {
        Kit.put(x, 1, 3, 1);
        x.write(0, 7, 7);
        x.commit(0);
        Kit.deliverAll(x);
        return x.status(0) % 16;
    }

    private static void whatCantBeReadIsNotNoted() {
        EpochStore x = new EpochStore();
        Kit.open(x, 0);
        x.stop(2, 0);
        DUE.is("DOWN", x.read(0, 3), EpochStore.DOWN);
        DUE.is("is not noted", stateWhenOvertaken(x), 4);
        EpochStore y = new EpochStore();
        Kit.put(y, 1, 0, 1);
        Kit.open(y, 0);
        DUE.is("LATE", y.read(0, 3), EpochStore.LATE);
        DUE.is("is not noted", stateWhenOvertaken(y), 4);
    }

    /** Client 1 is open at 20 in epoch 2, and overtaken at key 1; storage s goes on to epoch 4. */
    private static EpochStore withAStorageFarAhead(int s, boolean readInTime) {
        EpochStore x = Kit.withOneLog();
        x.find(1);
        Kit.open(x, 1);
        if (readInTime) {
            DUE.is("in time", x.read(1, 1), 0);
        }
        Kit.put(x, 0, 1, 1);
        x.recover(0);
        x.recover(0);
        x.pull(s, 0);
        x.pull(s, 0);
        DUE.is("it is far ahead", x.storage(s), Kit.server(s == 0 ? 1 : 0, 4, 41));
        return x;
    }

    /** Master 2, to which the COMMIT goes, has not got far, so that OLD for a storage is not OLD for it. */
    private static int typeAfterCommit(EpochStore x) {
        x.write(1, 7, 7);
        x.commit(1);
        x.deliver(0);
        return x.message(0) % 16;
    }

    private static void whatIsTooOldIsNotNoted() {
        EpochStore x = withAStorageFarAhead(0, false);
        DUE.is("OLD", x.read(1, 1), EpochStore.OLD);
        DUE.is("is not noted: a PUSH", typeAfterCommit(x), 6);
        EpochStore y = withAStorageFarAhead(0, true);
        DUE.is("OLD", y.read(1, 1), EpochStore.OLD);
        DUE.is("what was noted before stays: a RESULT", typeAfterCommit(y), 8);
        EpochStore z = withAStorageFarAhead(1, false);
        DUE.is("key 1 can be read, key 4 is OLD", z.range(1, 1, 4), EpochStore.OLD);
        DUE.is("none is noted: a PUSH", typeAfterCommit(z), 6);
        EpochStore w = withAStorageFarAhead(1, false);
        DUE.is("keys 1 .. 3 can be read", w.range(1, 1, 3), 0);
        DUE.is("they are noted: a RESULT", typeAfterCommit(w), 8);
    }

    private static void nothingIsAValueToo() {
        EpochStore x = new EpochStore();
        Kit.open(x, 0);
        DUE.is("no value", x.read(0, 3), 0);
        DUE.is("is noted", stateWhenOvertaken(x), 5);
    }

    private static void keysAboutTheLeastAndTheGreatest() {
        EpochStore x = new EpochStore();
        Kit.open(x, 0);
        for (int k : Kit.NO_KEYS) {
            DUE.is("read(0, " + k + ")", x.read(0, k), -1);
        }
        DUE.is("read(0, 0)", x.read(0, 0), 0);
        DUE.is("read(0, 7)", x.read(0, 7), 0);
    }

    private static void rangesAboutTheirKeys() {
        EpochStore x = new EpochStore();
        Kit.open(x, 0);
        for (int k : Kit.NO_KEYS) {
            DUE.is("range(0, " + k + ", 7)", x.range(0, k, 7), -1);
            DUE.is("range(0, 0, " + k + ")", x.range(0, 0, k), -1);
            DUE.is("range(0, " + k + ", " + k + ")", x.range(0, k, k), -1);
        }
        DUE.is("range(0, -1, 8)", x.range(0, -1, 8), -1);
        DUE.is("range(0, 8, -1)", x.range(0, 8, -1), -1);
        DUE.is("range(0, 0, 7)", x.range(0, 0, 7), 0);
    }

    private static void rangesOfOneKeyAndOfNone() {
        EpochStore x = new EpochStore();
        Kit.open(x, 0);
        x.write(0, 0, 1);
        x.write(0, 7, 1);
        for (int k = 0; k < 8; k++) {
            DUE.is("from " + k + " to " + k, x.range(0, k, k), k == 0 || k == 7 ? 1 : 0);
            DUE.is("from " + k + " to " + (k - 1), x.range(0, k, k - 1), -1);
        }
        DUE.is("from 7 to 0", x.range(0, 7, 0), -1);
        EpochStore y = new EpochStore();
        Kit.open(y, 0);
        y.range(0, 4, 3);
        DUE.is("a refused range notes nothing", stateWhenOvertaken(y), 4);
    }

    private static void emptyAndFullRanges() {
        EpochStore x = new EpochStore();
        Kit.open(x, 0);
        DUE.is("no key has a value", x.range(0, 0, 7), 0);
        for (int k = 0; k < 8; k++) {
            x.write(0, k, k - 8);
            DUE.is("so many keys have one", x.range(0, 0, 7), k + 1);
        }
        x.commit(0);
        Kit.deliverAll(x);
        x.pull(0, 0);
        x.pull(1, 0);
        Kit.open(x, 1);
        DUE.is("all keys have a value", x.range(1, 0, 7), 8);
        x.write(1, 0, 0);
        x.write(1, 7, 0);
        DUE.is("all but the first and the last", x.range(1, 0, 7), 6);
    }

    /** Storage 0 is LATE and storage 1 DOWN, then the other way round. */
    private static void theLeastKeyThatCantBeRead() {
        EpochStore x = new EpochStore();
        Kit.put(x, 1, 0, 1);
        Kit.open(x, 0);
        x.stop(2, 1);
        DUE.is("0 .. 7, LATE below DOWN", x.range(0, 0, 7), EpochStore.LATE);
        DUE.is("3 .. 4, LATE below DOWN", x.range(0, 3, 4), EpochStore.LATE);
        DUE.is("4 .. 7, DOWN alone", x.range(0, 4, 7), EpochStore.DOWN);
        x.start(2, 1);
        x.stop(2, 0);
        DUE.is("0 .. 7, DOWN below LATE", x.range(0, 0, 7), EpochStore.DOWN);
        DUE.is("3 .. 4, DOWN below LATE", x.range(0, 3, 4), EpochStore.DOWN);
        DUE.is("4 .. 7, LATE alone", x.range(0, 4, 7), EpochStore.LATE);
        EpochStore y = withStorageAt(33);
        y.stop(2, 1);
        DUE.is("3 .. 4, OLD below DOWN", y.range(1, 3, 4), EpochStore.OLD);
    }

    private static void writtenKeysAreNotRead() {
        EpochStore x = new EpochStore();
        Kit.put(x, 1, 0, 1);
        Kit.open(x, 0);
        x.stop(2, 1);
        for (int k = 0; k < 3; k++) {
            x.write(0, k, 1);
        }
        DUE.is("key 3 is LATE", x.range(0, 0, 4), EpochStore.LATE);
        x.write(0, 3, 0);
        DUE.is("key 4 is DOWN", x.range(0, 0, 4), EpochStore.DOWN);
        DUE.is("without it", x.range(0, 0, 3), 3);
        x.write(0, 4, 1);
        DUE.is("all of them are written", x.range(0, 0, 4), 4);
        DUE.is("and read", x.read(0, 4), 1);
        DUE.is("the next is not", x.range(0, 0, 5), EpochStore.DOWN);
    }
}
