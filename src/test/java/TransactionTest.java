/** Promises 3 and 6 to 9: begin, write, commit, giveUp, status. */
public final class TransactionTest {
    private static final Due DUE = new Due("TransactionTest");

    public static void main(String[] args) {
        beginSendsAnAsk();
        writes();
        commits();
        givesUp();
        DUE.end();
    }

    private static void beginSendsAnAsk() {
        EpochStore x = new EpochStore();
        DUE.is("begin(2)", x.begin(2), true);
        DUE.is("one message", x.messages(), 1);
        DUE.is("an ASK of client 2", x.message(0), Kit.message(1, 2, 1, 0));
        DUE.is("asking", x.status(2), 1);
        Kit.deliverAll(x);
        DUE.is("open at version 10", x.status(2), Kit.status(2, 10, 0));
    }

    private static void writes() {
        EpochStore x = new EpochStore();
        Kit.open(x, 0);
        DUE.is("write(0, 0, 1)", x.write(0, 0, 1), true);
        DUE.is("write(0, 0, 2)", x.write(0, 0, 2), true);
        DUE.is("write(0, 7, MIN)", x.write(0, 7, Integer.MIN_VALUE), true);
        DUE.is("write(0, 4, MAX)", x.write(0, 4, Integer.MAX_VALUE), true);
        x.commit(0);
        Kit.deliverAll(x);
        x.pull(0, 0);
        x.pull(1, 0);
        Kit.open(x, 1);
        DUE.is("the last write", x.read(1, 0), 2);
        DUE.is("the least int", x.read(1, 7), Integer.MIN_VALUE);
        DUE.is("the greatest int", x.read(1, 4), Integer.MAX_VALUE);
        DUE.is("a key without a write", x.read(1, 5), 0);
        Kit.put(x, 0, 0, 0);
        x.pull(0, 0);
        Kit.open(x, 2);
        DUE.is("0 takes the value away", x.read(2, 0), 0);
        DUE.is("as a record", x.storage(0), Kit.server(2, 1, 12));
        DUE.is("but not at an earlier version", x.read(1, 0), 2);
    }

    private static void commits() {
        EpochStore x = new EpochStore();
        Kit.open(x, 0);
        x.write(0, 5, 55);
        DUE.is("commit", x.commit(0), true);
        DUE.is("pending", x.status(0), Kit.status(3, 10, 0));
        DUE.is("a COMMIT", x.message(0), Kit.message(5, 0, 1, 10));
        DUE.is("alone", x.messages(), 1);
        Kit.deliverAll(x);
        DUE.is("committed with version 11", x.status(0), Kit.status(4, 10, 11));
    }

    private static void givesUp() {
        EpochStore x = new EpochStore();
        DUE.is("giveUp before begin", x.giveUp(0), false);
        DUE.is("no state yet", x.status(0), 0);
        x.begin(0);
        DUE.is("giveUp when asking", x.giveUp(0), true);
        DUE.is("dropped", x.status(0), 8);
        DUE.is("giveUp when dropped", x.giveUp(0), false);
        Kit.deliverAll(x);
        DUE.is("dropped all the same", x.status(0), 8);
        Kit.open(x, 0);
        DUE.is("giveUp when open", x.giveUp(0), true);
        DUE.is("dropped with its read version", x.status(0), Kit.status(8, 10, 0));
        Kit.open(x, 0);
        x.write(0, 0, 9);
        x.commit(0);
        DUE.is("giveUp when pending", x.giveUp(0), true);
        DUE.is("unknown", x.status(0), Kit.status(7, 10, 0));
        DUE.is("giveUp when unknown", x.giveUp(0), false);
        Kit.deliverAll(x);
        DUE.is("unknown after the result too", x.status(0), Kit.status(7, 10, 0));
        DUE.is("though it was committed", x.committed(1), 11);
        Kit.put(x, 1, 1, 1);
        DUE.is("giveUp when committed", x.giveUp(1), false);
        DUE.is("committed", x.status(1), Kit.status(4, 11, 12));
    }
}
