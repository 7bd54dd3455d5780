/**
 * The edges of clients and transactions: each call in each state, messages of earlier transactions
 * and of this one in another state, the epoch that is known and the one that was, and the numbers
 * of clients.
 */
public final class ClientEdgesTest {
    private static final int NONE_YET = 0;
    private static final int ASKING = 1;
    private static final int OPEN = 2;
    private static final int PENDING = 3;
    private static final int DROPPED = 8;
    private static final Due DUE = new Due("ClientEdgesTest");

    public static void main(String[] args) {
        for (int state = NONE_YET; state <= DROPPED; state++) {
            DUE.is("client 0 is in state", Kit.inState(state).status(0) % 16, state);
            beginIn(state);
            readAndRangeIn(state);
            writeIn(state);
            commitIn(state);
            giveUpIn(state);
        }
        noWriteAndAWriteOfZero();
        statusWithEachVersion();
        whatWasIsForgotten();
        aReadVersionOfAnEarlierTransaction();
        aResultOfAnEarlierTransaction();
        aReadVersionWhenItIsNotAsking();
        aResultWhenItIsNotPending();
        theEpochIsThatOfTheBeginning();
        anAskGoesToTheMasterThatIsKnown();
        aCommitGoesToTheMasterThatIsKnown();
        aMasterOfAnotherEpochMayAnswer();
        numbersOfClients();
        DUE.end();
    }

    private static void unchanged(String what, EpochStore x, int state) {
        DUE.is(what + " changed nothing in state " + state, Kit.seen(x).equals(Kit.seen(Kit.inState(state))), true);
    }

    private static void beginIn(int state) {
        EpochStore x = Kit.inState(state);
        int messages = x.messages();
        boolean busy = state == ASKING || state == OPEN || state == PENDING;
        DUE.is("begin in state " + state, x.begin(0), !busy);
        if (busy) {
            unchanged("begin", x, state);
        } else {
            DUE.is("it is ASKING after state " + state, x.status(0), 1);
            DUE.is("an ASK after state " + state, x.message(messages) % 256, 1);
            DUE.is("alone after state " + state, x.messages(), messages + 1);
        }
    }

    private static void readAndRangeIn(int state) {
        EpochStore x = Kit.inState(state);
        DUE.is("read in state " + state, x.read(0, 5), state == OPEN ? 0 : -1);
        DUE.is("range in state " + state, x.range(0, 5, 7), state == OPEN ? 0 : -1);
        unchanged("read and range", x, state);
    }

    private static void writeIn(int state) {
        EpochStore x = Kit.inState(state);
        DUE.is("write in state " + state, x.write(0, 5, 1), state == OPEN);
        unchanged("write", x, state);
        DUE.is("what it reads after that in state " + state, x.read(0, 5), state == OPEN ? 1 : -1);
    }

    private static void commitIn(int state) {
        EpochStore x = Kit.inState(state);
        DUE.is("commit in state " + state, x.commit(0), state == OPEN);
        if (state != OPEN) {
            unchanged("commit", x, state);
        } else {
            DUE.is("it is PENDING", x.status(0), Kit.status(PENDING, 10, 0));
            DUE.is("a COMMIT", x.message(0), Kit.message(5, 0, 1, 10));
            DUE.is("alone", x.messages(), 1);
        }
    }

    private static void giveUpIn(int state) {
        EpochStore x = Kit.inState(state);
        int messages = x.messages();
        boolean busy = state == ASKING || state == OPEN || state == PENDING;
        DUE.is("giveUp in state " + state, x.giveUp(0), busy);
        if (!busy) {
            unchanged("giveUp", x, state);
        } else {
            int readVersion = state == ASKING ? 0 : 10;
            DUE.is("after giveUp in state " + state, x.status(0), Kit.status(state == PENDING ? 7 : 8, readVersion, 0));
            DUE.is("nothing is sent", x.messages(), messages);
        }
    }

    private static void noWriteAndAWriteOfZero() {
        EpochStore x = new EpochStore();
        Kit.open(x, 0);
        x.range(0, 0, 7);
        DUE.is("commit without writes", x.commit(0), true);
        DUE.is("it is COMMITTED at once, without a version", x.status(0), Kit.status(4, 10, 0));
        DUE.is("nothing is sent", x.messages(), 0);
        Kit.open(x, 0);
        x.write(0, 5, 0);
        DUE.is("commit with a write of 0", x.commit(0), true);
        DUE.is("it is PENDING", x.status(0), Kit.status(3, 10, 0));
        DUE.is("a COMMIT is sent", x.message(0), Kit.message(5, 0, 1, 10));
        Kit.open(x, 1);
        x.write(1, 8, 1);
        x.write(1, -1, 1);
        DUE.is("commit after refused writes alone", x.commit(1), true);
        DUE.is("it is COMMITTED at once", x.status(1) % 16, 4);
    }

    private static void statusWithEachVersion() {
        int[] due = {0, 1, Kit.status(2, 10, 0), Kit.status(3, 10, 0), Kit.status(4, 10, 11), Kit.status(5, 10, 0),
            Kit.status(6, 10, 0), Kit.status(7, 10, 0), Kit.status(8, 10, 0)};
        for (int state = NONE_YET; state <= DROPPED; state++) {
            DUE.is("status in state " + state, Kit.inState(state).status(0), due[state]);
        }
    }

    /** Nothing of the transaction before is noted, written or told by status. */
    private static void whatWasIsForgotten() {
        EpochStore x = new EpochStore();
        Kit.open(x, 0);
        x.range(0, 0, 3);
        x.write(0, 4, 44);
        x.giveUp(0);
        DUE.is("begin", x.begin(0), true);
        DUE.is("no read version", x.status(0), 1);
        Kit.deliverAll(x);
        DUE.is("not written", x.read(0, 4), 0);
        Kit.put(x, 1, 2, 1);
        x.write(0, 5, 5);
        x.commit(0);
        Kit.deliverAll(x);
        DUE.is("not noted", x.status(0), Kit.status(4, 10, 12));
        x.begin(0);
        DUE.is("no versions", x.status(0), 1);
    }

    private static void aReadVersionOfAnEarlierTransaction() {
        EpochStore x = new EpochStore();
        x.begin(0);
        for (int i = 0; i < 7; i++) {
            x.deliver(0);
        }
        x.giveUp(0);
        x.begin(0);
        DUE.is("a READ VERSION of the first", x.deliver(0), 4);
        DUE.is("does nothing for the second", x.status(0), 1);
        Kit.deliverAll(x);
        DUE.is("its own does", x.status(0), Kit.status(2, 10, 0));
    }

    private static void aResultOfAnEarlierTransaction() {
        EpochStore x = new EpochStore();
        Kit.open(x, 0);
        x.write(0, 0, 1);
        x.commit(0);
        for (int i = 0; i < 7; i++) {
            x.deliver(0);
        }
        x.giveUp(0);
        x.begin(0);
        for (int i = 0; i < 8; i++) {
            x.deliver(1);
        }
        x.write(0, 0, 2);
        x.commit(0);
        DUE.is("a RESULT of the first", x.message(0), Kit.message(8, 0, 1, 11));
        x.deliver(0);
        DUE.is("does nothing for the second", x.status(0), Kit.status(3, 11, 0));
        Kit.deliverAll(x);
        DUE.is("its own does", x.status(0), Kit.status(4, 11, 12));
    }

    private static void aReadVersionWhenItIsNotAsking() {
        EpochStore x = Kit.inState(ASKING);
        x.giveUp(0);
        Kit.deliverAll(x);
        DUE.is("READ VERSION when DROPPED", x.status(0), DROPPED);
    }

    private static void aResultWhenItIsNotPending() {
        EpochStore x = Kit.inState(PENDING);
        x.giveUp(0);
        Kit.deliverAll(x);
        DUE.is("RESULT when UNKNOWN", x.status(0), Kit.status(7, 10, 0));
        DUE.is("it was committed though", x.committed(1), 11);
    }

    /** The client finds epoch 2 while its transaction is of epoch 1: a storage of epoch 1 is not late for it. */
    private static void theEpochIsThatOfTheBeginning() {
        EpochStore x = new EpochStore();
        Kit.open(x, 0);
        x.recover(0);
        DUE.is("find", x.find(0), 2);
        DUE.is("read in the transaction of epoch 1", x.read(0, 0), 0);
        x.giveUp(0);
        Kit.open(x, 0);
        DUE.is("read in the transaction of epoch 2", x.read(0, 0), EpochStore.LATE);
    }

    private static void anAskGoesToTheMasterThatIsKnown() {
        EpochStore x = new EpochStore();
        x.recover(0);
        x.find(1);
        x.begin(0);
        x.begin(1);
        DUE.is("of one that did not find", x.message(0), Kit.message(1, 0, 1, 0));
        DUE.is("of one that did", x.message(1), Kit.message(1, 1, 2, 0));
        x.find(0);
        DUE.is("what is sent is sent", x.message(0), Kit.message(1, 0, 1, 0));
    }

    private static void aCommitGoesToTheMasterThatIsKnown() {
        EpochStore x = new EpochStore();
        Kit.open(x, 0);
        Kit.open(x, 1);
        x.write(0, 1, 1);
        x.write(1, 1, 1);
        x.recover(0);
        x.find(0);
        x.commit(0);
        x.commit(1);
        DUE.is("of one that found since", x.message(0), Kit.message(5, 0, 2, 10));
        DUE.is("of one that did not", x.message(1), Kit.message(5, 1, 1, 10));
        Kit.deliverAll(x);
        DUE.is("master 2 finds it too old", x.status(0), Kit.status(6, 10, 0));
        DUE.is("master 1 puts it on its way", x.master(1), Kit.master(0, 1, 11));
    }

    private static void aMasterOfAnotherEpochMayAnswer() {
        EpochStore x = new EpochStore();
        x.begin(0);
        for (int i = 0; i < 7; i++) {
            x.deliver(0);
        }
        x.recover(0);
        x.find(0);
        DUE.is("READ VERSION of master 1", x.message(0), Kit.message(4, 0, 1, 10));
        x.deliver(0);
        DUE.is("is heard by one that knows epoch 2", x.status(0), Kit.status(2, 10, 0));
    }

    private static void noClient(EpochStore x, int c) {
        String before = Kit.seen(x);
        DUE.is("find(" + c + ")", x.find(c), -1);
        DUE.is("begin(" + c + ")", x.begin(c), false);
        DUE.is("read(" + c + ", 0)", x.read(c, 0), -1);
        DUE.is("range(" + c + ", 0, 7)", x.range(c, 0, 7), -1);
        DUE.is("write(" + c + ", 0, 1)", x.write(c, 0, 1), false);
        DUE.is("commit(" + c + ")", x.commit(c), false);
        DUE.is("giveUp(" + c + ")", x.giveUp(c), false);
        DUE.is("status(" + c + ")", x.status(c), -1);
        DUE.is("nothing has changed by client " + c, Kit.seen(x).equals(before), true);
    }

    private static void numbersOfClients() {
        for (int c : Kit.NO_CLIENTS) {
            noClient(new EpochStore(), c);
            EpochStore x = new EpochStore();
            for (int i = 0; i < 3; i++) {
                Kit.open(x, i);
            }
            noClient(x, c);
        }
        for (int c = 0; c < 3; c++) {
            EpochStore x = new EpochStore();
            DUE.is("find(" + c + ")", x.find(c), 1);
            DUE.is("begin(" + c + ")", x.begin(c), true);
            Kit.deliverAll(x);
            DUE.is("read(" + c + ", 0)", x.read(c, 0), 0);
            DUE.is("range(" + c + ", 0, 7)", x.range(c, 0, 7), 0);
            for (int k : Kit.NO_KEYS) {
                DUE.is("write(" + c + ", " + k + ", 1)", x.write(c, k, 1), false);
            }
            DUE.is("write(" + c + ", 0, 1)", x.write(c, 0, 1), true);
            DUE.is("write(" + c + ", 7, 1)", x.write(c, 7, 1), true);
            DUE.is("commit(" + c + ")", x.commit(c), true);
            DUE.is("giveUp(" + c + ")", x.giveUp(c), true);
            DUE.is("status(" + c + ")", x.status(c), Kit.status(7, 10, 0));
        }
    }
}
