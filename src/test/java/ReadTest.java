/** Promises 4 and 5: read and range. */
public final class ReadTest {
    private static final Due DUE = new Due("ReadTest");

    public static void main(String[] args) {
        readsItsOwnWrites();
        readsWhatIsStored();
        readNotes();
        readDoesNotNoteItsOwnWrites();
        rangeCounts();
        rangeNotes();
        rangeThatCantBeReadNotesNothing();
        DUE.end();
    }

    private static void readsItsOwnWrites() {
        EpochStore x = new EpochStore();
        Kit.put(x, 0, 2, 5);
        x.pull(0, 0);
        Kit.open(x, 0);
        DUE.is("stored", x.read(0, 2), 5);
        x.write(0, 2, 6);
        DUE.is("written", x.read(0, 2), 6);
        x.write(0, 2, 0);
        DUE.is("written as 0", x.read(0, 2), 0);
        x.write(0, 3, -1);
        DUE.is("written as -1", x.read(0, 3), -1);
        Kit.open(x, 1);
        DUE.is("another transaction does not see it", x.read(1, 2), 5);
        x.stop(2, 0);
        DUE.is("its own write needs no storage", x.read(0, 3), -1);
    }

    private static void readsWhatIsStored() {
        EpochStore x = new EpochStore();
        Kit.open(x, 0);
        for (int k = 0; k < 8; k++) {
            x.write(0, k, k == 5 ? -1 : 100 + k);
        }
        x.commit(0);
        Kit.deliverAll(x);
        x.pull(0, 1);
        x.pull(1, 2);
        Kit.open(x, 1);
        for (int k = 0; k < 8; k++) {
            DUE.is("key " + k, x.read(1, k), k == 5 ? -1 : 100 + k);
        }
    }

    /** Client 0, open at 10, and client 1's write of key k as version 11; then 0 commits. */
    private static int statusAfterOvertaking(EpochStore x, int k) {
        Kit.put(x, 1, k, 1);
        x.write(0, 7, 7);
        x.commit(0);
        Kit.deliverAll(x);
        return x.status(0) % 16;
    }

    private static void readNotes() {
        for (int k = 0; k < 7; k++) {
            EpochStore x = new EpochStore();
            Kit.open(x, 0);
            x.read(0, k);
            DUE.is("key " + k + " was noted", statusAfterOvertaking(x, k), 5);
            EpochStore y = new EpochStore();
            Kit.open(y, 0);
            y.read(0, k);
            DUE.is("key " + k + " alone was noted", statusAfterOvertaking(y, (k + 1) % 7), 4);
        }
    }

    private static void readDoesNotNoteItsOwnWrites() {
        EpochStore x = new EpochStore();
        Kit.open(x, 0);
        x.write(0, 3, 1);
        x.read(0, 3);
        DUE.is("read after the write", statusAfterOvertaking(x, 3), 4);
        EpochStore y = new EpochStore();
        Kit.open(y, 0);
        y.read(0, 3);
        y.write(0, 3, 1);
        DUE.is("read before the write", statusAfterOvertaking(y, 3), 5);
    }

    private static void rangeCounts() {
        EpochStore x = new EpochStore();
        Kit.open(x, 0);
        x.write(0, 1, 1);
        x.write(0, 3, -1);
        x.write(0, 4, 4);
        x.write(0, 6, 0);
        DUE.is("its own writes", x.range(0, 0, 7), 3);
        x.commit(0);
        Kit.deliverAll(x);
        x.pull(0, 0);
        x.pull(1, 0);
        Kit.open(x, 1);
        DUE.is("0 .. 7", x.range(1, 0, 7), 3);
        DUE.is("1 .. 3", x.range(1, 1, 3), 2);
        DUE.is("2 .. 2", x.range(1, 2, 2), 0);
        DUE.is("3 .. 4", x.range(1, 3, 4), 2);
        DUE.is("7 .. 7", x.range(1, 7, 7), 0);
        x.write(1, 3, 0);
        x.write(1, 7, 7);
        DUE.is("with a write of 0 and a new one", x.range(1, 3, 7), 2);
    }

    private static void rangeNotes() {
        for (int k = 0; k < 7; k++) {
            EpochStore x = new EpochStore();
            Kit.open(x, 0);
            x.range(0, 2, 5);
            DUE.is("overtaken at " + k, statusAfterOvertaking(x, k), k >= 2 && k <= 5 ? 5 : 4);
            EpochStore y = new EpochStore();
            Kit.open(y, 0);
            y.write(0, 3, 9);
            y.range(0, 2, 5);
            DUE.is("with 3 written, at " + k, statusAfterOvertaking(y, k), k == 2 || k == 4 || k == 5 ? 5 : 4);
        }
    }

    private static void rangeThatCantBeReadNotesNothing() {
        for (int k = 2; k < 6; k++) {
            EpochStore x = new EpochStore();
            Kit.open(x, 0);
            x.stop(2, 1);
            DUE.is("storage 1 is down", x.range(0, 2, 5), EpochStore.DOWN);
            x.start(2, 1);
            DUE.is("overtaken at " + k, statusAfterOvertaking(x, k), 4);
        }
        EpochStore y = new EpochStore();
        Kit.open(y, 0);
        y.read(0, 2);
        y.stop(2, 1);
        y.range(0, 2, 5);
        DUE.is("what was noted before stays", statusAfterOvertaking(y, 2), 5);
    }
}
