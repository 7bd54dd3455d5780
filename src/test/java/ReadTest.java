/** Promises 4 and 5: read and range. */
public final class ReadTest {
    private static final Due DUE = new Due("ReadTest");

    public static void main(String[] args) {
        readsItsOwnWrites();
        readsWhatIsStored();
        readsItsVersion();
        readNotes();
        readDoesNotNoteItsOwnWrites();
        readDoesNotNoteWhatCantBeRead();
        down();
        late();
        lateByEpoch();
        old();
        readRefused();
        rangeCounts();
        rangeNotes();
        rangeThatCantBeReadNotesNothing();
        rangeTellsTheLeast();
        rangeRefused();
        DUE.end();
    }

    private static void readsItsOwnWrites() {
        EpochStore x = new EpochStore();
        Kit.put(x, 0, 2, 5);
        x.pull(0, 0);
        Kit.open(x, 0);
        DUE.is("stored", x.read(0, 2), 5);
        x.write(0, 2, 6);
        DUE.is("written", x.read(0, 2), 6);
        x.write(0, 2, 0);
        DUE.is("written as 0", x.read(0, 2), 0);
        x.write(0, 3, -1);
        DUE.is("written as -1", x.read(0, 3), -1);
        Kit.open(x, 1);
        DUE.is("another transaction does not see it", x.read(1, 2), 5);
        x.stop(2, 0);
        DUE.is("its own write needs no storage", x.read(0, 3), -1);
    }

    private static void readsWhatIsStored() {
        EpochStore x = new EpochStore();
        Kit.open(x, 0);
        for (int k = 0; k < 8; k++) {
            x.write(0, k, k == 5 ? -1 : 100 + k);
        }
        x.commit(0);
        Kit.deliverAll(x);
        x.pull(0, 1);
        x.pull(1, 2);
        Kit.open(x, 1);
        for (int k = 0; k < 8; k++) {
            DUE.is("key " + k, x.read(1, k), k == 5 ? -1 : 100 + k);
        }
    }

    private static void readsItsVersion() {
        EpochStore x = new EpochStore();
        Kit.open(x, 0);
        Kit.put(x, 1, 1, 51);
        Kit.open(x, 1);
        Kit.put(x, 2, 1, 52);
        Kit.put(x, 2, 2, 53);
        for (int i = 0; i < 3; i++) {
            x.pull(0, 0);
        }
        Kit.open(x, 2);
        DUE.is("at version 10", x.read(0, 1), 0);
        DUE.is("at version 11", x.read(1, 1), 51);
        DUE.is("at version 13", x.read(2, 1), 52);
        DUE.is("another key at version 11", x.read(1, 2), 0);
        DUE.is("another key at version 13", x.read(2, 2), 53);
    }

    /** Client 0, open at 10, and client 1's write of key k as version 11; then 0 commits. */
    private static int statusAfterOvertaking(EpochStore x, int k) {
        Kit.put(x, 1, k, 1);
        x.write(0, 7, 7);
        x.commit(0);
        Kit.deliverAll(x);
        return x.status(0) % 16;
    }

    private static void readNotes() {
        for (int k = 0; k < 7; k++) {
            EpochStore x = new EpochStore();
            Kit.open(x, 0);
            x.read(0, k);
            DUE.is("key " + k + " was noted", statusAfterOvertaking(x, k), 5);
            EpochStore y = new EpochStore();
            Kit.open(y, 0);
            y.read(0, k);
            DUE.is("key " + k + " alone was noted", statusAfterOvertaking(y, (k + 1) % 7), 4);
        }
    }

    private static void readDoesNotNoteItsOwnWrites() {
        EpochStore x = new EpochStore();
        Kit.open(x, 0);
        x.write(0, 3, 1);
        x.read(0, 3);
        DUE.is("read after the write", statusAfterOvertaking(x, 3), 4);
        EpochStore y = new EpochStore();
        Kit.open(y, 0);
        y.read(0, 3);
        y.write(0, 3, 1);
        DUE.is("read before the write", statusAfterOvertaking(y, 3), 5);
    }

    private static void readDoesNotNoteWhatCantBeRead() {
        EpochStore x = new EpochStore();
        Kit.open(x, 0);
        x.stop(2, 0);
        DUE.is("down", x.read(0, 3), EpochStore.DOWN);
        x.start(2, 0);
        DUE.is("not noted when down", statusAfterOvertaking(x, 3), 4);
        EpochStore y = new EpochStore();
        Kit.put(y, 1, 0, 1);
        Kit.open(y, 0);
        DUE.is("late", y.read(0, 3), EpochStore.LATE);
        DUE.is("not noted when late", statusAfterOvertaking(y, 3), 4);
    }

    private static void down() {
        EpochStore x = new EpochStore();
        Kit.put(x, 1, 0, 1);
        Kit.open(x, 0);
        x.stop(2, 0);
        DUE.is("down comes before late", x.read(0, 3), EpochStore.DOWN);
        DUE.is("the other storage is up", x.read(0, 4), EpochStore.LATE);
        x.start(2, 0);
        x.pull(0, 0);
        DUE.is("up again", x.read(0, 0), 1);
    }

    private static void late() {
        EpochStore x = new EpochStore();
        Kit.put(x, 1, 0, 1);
        Kit.open(x, 0);
        DUE.is("storage 0 at 10", x.read(0, 0), EpochStore.LATE);
        DUE.is("storage 1 at 10", x.read(0, 7), EpochStore.LATE);
        x.pull(0, 0);
        DUE.is("storage 0 at 11", x.read(0, 0), 1);
        DUE.is("storage 1 still at 10", x.read(0, 7), EpochStore.LATE);
    }

    /** A storage that is at version 21 in epoch 1, and a transaction of epoch 2 at version 20. */
    private static void lateByEpoch() {
        EpochStore x = Kit.withAStorageAhead();
        Kit.open(x, 0);
        DUE.is("open at 20", x.status(0), Kit.status(2, 20, 0));
        DUE.is("late for its epoch alone", x.read(0, 0), EpochStore.LATE);
        x.pull(0, 0);
        DUE.is("in the epoch", x.read(0, 0), 0);
    }

    private static void old() {
        EpochStore x = Kit.withOneLog();
        x.find(1);
        x.find(2);
        Kit.open(x, 1);
        Kit.put(x, 0, 0, 1);
        x.pull(0, 0);
        Kit.open(x, 2);
        for (int v = 22; v <= 32; v++) {
            Kit.put(x, 0, 0, v);
            x.pull(0, 0);
        }
        DUE.is("20 when it is at 32", x.read(1, 0), 0);
        Kit.put(x, 0, 1, 33);
        x.pull(0, 0);
        DUE.is("20 when it is at 33", x.read(1, 0), EpochStore.OLD);
        DUE.is("21 when it is at 33", x.read(2, 0), 1);
        DUE.is("20 when the other is at 20", x.read(1, 4), 0);
        x.stop(2, 0);
        DUE.is("down comes before old", x.read(1, 0), EpochStore.DOWN);
    }

    private static void readRefused() {
        EpochStore x = new EpochStore();
        DUE.is("before begin", x.read(0, 0), -1);
        x.begin(0);
        DUE.is("asking", x.read(0, 0), -1);
        Kit.deliverAll(x);
        for (int k : Kit.NO_KEYS) {
            DUE.is("key " + k, x.read(0, k), -1);
        }
        for (int c : Kit.NO_CLIENTS) {
            DUE.is("client " + c, x.read(c, 0), -1);
        }
        DUE.is("client 1 has none", x.read(1, 0), -1);
        x.write(0, 0, 5);
        x.commit(0);
        DUE.is("pending", x.read(0, 0), -1);
        Kit.deliverAll(x);
        DUE.is("committed", x.read(0, 0), -1);
    }

    private static void rangeCounts() {
        EpochStore x = new EpochStore();
        Kit.open(x, 0);
        x.write(0, 1, 1);
        x.write(0, 3, -1);
        x.write(0, 4, 4);
        x.write(0, 6, 0);
        DUE.is("its own writes", x.range(0, 0, 7), 3);
        x.commit(0);
        Kit.deliverAll(x);
        x.pull(0, 0);
        x.pull(1, 0);
        Kit.open(x, 1);
        DUE.is("0 .. 7", x.range(1, 0, 7), 3);
        DUE.is("1 .. 3", x.range(1, 1, 3), 2);
        DUE.is("2 .. 2", x.range(1, 2, 2), 0);
        DUE.is("3 .. 4", x.range(1, 3, 4), 2);
        DUE.is("7 .. 7", x.range(1, 7, 7), 0);
        x.write(1, 3, 0);
        x.write(1, 7, 7);
        DUE.is("with a write of 0 and a new one", x.range(1, 3, 7), 2);
    }

    private static void rangeNotes() {
        for (int k = 0; k < 7; k++) {
            EpochStore x = new EpochStore();
            Kit.open(x, 0);
            x.range(0, 2, 5);
            DUE.is("overtaken at " + k, statusAfterOvertaking(x, k), k >= 2 && k <= 5 ? 5 : 4);
            EpochStore y = new EpochStore();
            Kit.open(y, 0);
            y.write(0, 3, 9);
            y.range(0, 2, 5);
            DUE.is("with 3 written, at " + k, statusAfterOvertaking(y, k), k == 2 || k == 4 || k == 5 ? 5 : 4);
        }
    }

    private static void rangeThatCantBeReadNotesNothing() {
        for (int k = 2; k < 6; k++) {
            EpochStore x = new EpochStore();
            Kit.open(x, 0);
            x.stop(2, 1);
            DUE.is("storage 1 is down", x.range(0, 2, 5), EpochStore.DOWN);
            x.start(2, 1);
            DUE.is("overtaken at " + k, statusAfterOvertaking(x, k), 4);
        }
        EpochStore y = new EpochStore();
        Kit.open(y, 0);
        y.read(0, 2);
        y.stop(2, 1);
        y.range(0, 2, 5);
        DUE.is("what was noted before stays", statusAfterOvertaking(y, 2), 5);
    }

    private static void rangeTellsTheLeast() {
        EpochStore x = new EpochStore();
        Kit.put(x, 1, 0, 1);
        Kit.open(x, 0);
        x.stop(2, 1);
        DUE.is("late below down", x.range(0, 3, 4), EpochStore.LATE);
        x.pull(0, 0);
        DUE.is("down alone", x.range(0, 0, 4), EpochStore.DOWN);
        x.write(0, 4, 1);
        DUE.is("the key that is down was written", x.range(0, 0, 4), 2);
        DUE.is("another is down too", x.range(0, 0, 5), EpochStore.DOWN);
        x.stop(2, 0);
        x.start(2, 1);
        DUE.is("down below late", x.range(0, 3, 7), EpochStore.DOWN);
        for (int k = 0; k < 4; k++) {
            x.write(0, k, 0);
        }
        DUE.is("late alone", x.range(0, 0, 7), EpochStore.LATE);
    }

    private static void rangeRefused() {
        EpochStore x = new EpochStore();
        DUE.is("before begin", x.range(0, 0, 7), -1);
        x.begin(0);
        DUE.is("asking", x.range(0, 0, 7), -1);
        Kit.deliverAll(x);
        DUE.is("from above to", x.range(0, 4, 3), -1);
        for (int k : Kit.NO_KEYS) {
            DUE.is("from " + k, x.range(0, k, 7), -1);
            DUE.is("to " + k, x.range(0, 0, k), -1);
            DUE.is("both " + k, x.range(0, k, k), -1);
        }
        for (int c : Kit.NO_CLIENTS) {
            DUE.is("client " + c, x.range(c, 0, 7), -1);
        }
        DUE.is("client 1 has none", x.range(1, 0, 7), -1);
        x.write(0, 0, 5);
        x.commit(0);
        DUE.is("pending", x.range(0, 0, 7), -1);
    }
}
