/** Promise 18. */
public final class RecoverTest {
    private static final Due DUE = new Due("RecoverTest");

    public static void main(String[] args) {
        aNewEpoch();
        takesTheLogsThatAreUp();
        fromALogWithMore();
        fromALogWithLess();
        olderMastersGoOn();
        whatWasToldStays();
        DUE.end();
    }

    private static void aNewEpoch() {
        EpochStore x = new EpochStore();
        Kit.put(x, 0, 0, 1);
        DUE.is("recover(1)", x.recover(1), 2);
        for (int i = 0; i < 3; i++) {
            DUE.is("coordinator " + i, x.coordinator(i), 18);
            DUE.is("log " + i, x.log(i), Kit.server(1, 2, 21));
        }
        DUE.is("master 2", x.master(2), Kit.master(0, 0, 21));
        DUE.is("its COMMITTED", x.committed(2), 21);
        DUE.is("master 1 stays", x.master(1), Kit.master(0, 0, 11));
        DUE.is("the storages stay", x.storage(0), Kit.server(0, 1, 10));
        x.find(0);
        Kit.put(x, 0, 1, 1);
        DUE.is("PUSHED was END", x.log(0), Kit.server(2, 2, 22));
        DUE.is("committed in the new epoch", x.status(0), Kit.status(4, 21, 22));
    }

    private static void takesTheLogsThatAreUp() {
        EpochStore x = new EpochStore();
        x.stop(1, 0);
        x.stop(0, 0);
        DUE.is("recover(2)", x.recover(2), 2);
        DUE.is("log 0 is down", x.log(0), Kit.server(0, 1, 10) - Kit.UP);
        DUE.is("log 1 is taken", x.log(1), Kit.server(0, 2, 20));
        DUE.is("coordinator 0 is down", x.coordinator(0), 1);
        DUE.is("coordinator 1", x.coordinator(1), 18);
        x.start(1, 0);
        x.find(0);
        Kit.open(x, 0);
        DUE.is("the two logs confirm", x.status(0), Kit.status(2, 20, 0));
        DUE.is("the next takes log 0 too", x.recover(1), 3);
        DUE.is("log 0", x.log(0), Kit.server(0, 3, 30));
    }

    private static void fromALogWithMore() {
        EpochStore x = new EpochStore();
        Kit.toLogTwoAlone(x, 0, 1, 5);
        DUE.is("recover(2)", x.recover(2), 2);
        for (int l = 0; l < 3; l++) {
            DUE.is("log " + l, x.log(l), Kit.server(1, 2, 21));
        }
        x.pull(0, 0);
        x.pull(0, 0);
        x.find(1);
        Kit.open(x, 1);
        DUE.is("what log 2 alone had is there now", x.read(1, 1), 5);
    }

    private static void fromALogWithLess() {
        EpochStore x = new EpochStore();
        Kit.toLogTwoAlone(x, 0, 1, 5);
        DUE.is("recover(0)", x.recover(0), 2);
        for (int l = 0; l < 3; l++) {
            DUE.is("log " + l, x.log(l), Kit.server(0, 2, 20));
        }
        x.find(1);
        Kit.put(x, 1, 1, 6);
        DUE.is("log 2 goes on from there", x.log(2), Kit.server(1, 2, 21));
        x.pull(0, 2);
        Kit.open(x, 1);
        DUE.is("what log 2 alone had is gone", x.read(1, 1), 6);
    }

    /** What is on its way in the old epoch never gets all logs; the old master still takes messages. */
    private static void olderMastersGoOn() {
        EpochStore x = new EpochStore();
        Kit.open(x, 0);
        x.write(0, 0, 1);
        x.recover(0);
        x.commit(0);
        Kit.deliverAll(x);
        DUE.is("pending", x.status(0), Kit.status(3, 10, 0));
        DUE.is("on its way for good", x.master(1), Kit.master(0, 1, 11));
        DUE.is("the logs have nothing of it", x.log(0), Kit.server(0, 2, 20));
        x.begin(1);
        Kit.deliverAll(x);
        DUE.is("a question for good", x.master(1), Kit.master(1, 1, 11));
    }

    private static void whatWasToldStays() {
        for (int l = 0; l < 3; l++) {
            EpochStore x = new EpochStore();
            Kit.put(x, 0, 2, 9);
            Kit.toLogTwoAlone(x, 1, 2, 10);
            x.pull(0, 2);
            x.pull(0, 2);
            x.recover(l);
            x.pull(0, l);
            x.pull(0, l);
            x.find(2);
            Kit.open(x, 2);
            DUE.is("after a recovery from log " + l, x.read(2, 2), l == 2 ? 10 : 9);
        }
    }
}
