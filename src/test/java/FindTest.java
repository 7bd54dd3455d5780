/** Promise 2. */
public final class FindTest {
    private static final Due DUE = new Due("FindTest");

    public static void main(String[] args) {
        findsTheNewEpoch();
        asksTheCoordinatorsThatAreUp();
        needsTwo();
        wrongClients();
        DUE.end();
    }

    private static void findsTheNewEpoch() {
        EpochStore x = new EpochStore();
        DUE.is("at first", x.find(0), 1);
        x.recover(0);
        DUE.is("client 0 after a recovery", x.find(0), 2);
        x.begin(0);
        x.begin(1);
        DUE.is("one that found sends to the new master", x.message(0), Kit.message(1, 0, 2, 0));
        DUE.is("one that did not, to the old", x.message(1), Kit.message(1, 1, 1, 0));
    }

    private static void asksTheCoordinatorsThatAreUp() {
        EpochStore x = new EpochStore();
        x.stop(0, 2);
        x.recover(0);
        x.start(0, 2);
        x.stop(0, 0);
        DUE.is("the greatest of those with epochs 2 and 1", x.find(0), 2);
        x.stop(0, 1);
        x.start(0, 0);
        DUE.is("the other one with epoch 2", x.find(1), 2);
    }

    private static void needsTwo() {
        EpochStore x = new EpochStore();
        x.recover(0);
        x.stop(0, 0);
        x.stop(0, 2);
        DUE.is("one is up", x.find(0), -1);
        x.begin(0);
        DUE.is("the client knows what it knew", x.message(0), Kit.message(1, 0, 1, 0));
        x.stop(0, 1);
        DUE.is("none is up", x.find(0), -1);
        x.start(0, 2);
        x.start(0, 0);
        DUE.is("two are up", x.find(0), 2);
    }

    private static void wrongClients() {
        EpochStore x = new EpochStore();
        for (int c : Kit.NO_CLIENTS) {
            DUE.is("find(" + c + ")", x.find(c), -1);
        }
        DUE.is("find(2)", x.find(2), 1);
    }
}
