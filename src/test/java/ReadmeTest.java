/** The examples of README.md, with the answers that it tells. */
public final class ReadmeTest {
    private static final Due DUE = new Due("ReadmeTest");

    public static void main(String[] args) {
        EpochStore store = new EpochStore();
        aWriteAndARead(store);
        aNewEpoch(store);
        DUE.end();
    }

    private static void aWriteAndARead(EpochStore store) {
        DUE.is("begin(0)", store.begin(0), true);
        Kit.deliverAll(store);
        DUE.is("write(0, 3, 42)", store.write(0, 3, 42), true);
        DUE.is("commit(0)", store.commit(0), true);
        Kit.deliverAll(store);
        DUE.is("status(0)", store.status(0), 4 + 16 * 10 + 65536 * 11);
        DUE.is("pull(0, 1)", store.pull(0, 1), 11);
        DUE.is("begin(1)", store.begin(1), true);
        Kit.deliverAll(store);
        DUE.is("read(1, 3)", store.read(1, 3), 42);
    }

    private static void aNewEpoch(EpochStore store) {
        DUE.is("write(1, 3, 43)", store.write(1, 3, 43), true);
        DUE.is("commit(1)", store.commit(1), true);
        DUE.is("stop(3, 1)", store.stop(3, 1), true);
        DUE.is("deliver(0)", store.deliver(0), 5);
        DUE.is("the COMMIT is lost", store.messages(), 0);
        DUE.is("giveUp(1)", store.giveUp(1), true);
        DUE.is("status(1)", store.status(1), 7 + 16 * 11);
        DUE.is("recover(2)", store.recover(2), 2);
        DUE.is("find(1)", store.find(1), 2);
        DUE.is("begin(1) again", store.begin(1), true);
        Kit.deliverAll(store);
        DUE.is("read(1, 3) too early", store.read(1, 3), EpochStore.LATE);
        DUE.is("pull(0, 0)", store.pull(0, 0), 21);
        DUE.is("read(1, 3) in epoch 2", store.read(1, 3), 42);
    }
}
