/** Promises 3 and 6 to 9: begin, write, commit, giveUp, status. */
public final class TransactionTest {
    private static final Due DUE = new Due("TransactionTest");

    public static void main(String[] args) {
        beginSendsAnAsk();
        beginIsRefusedWhileBusy();
        beginAfterEachEnd();
        beginForgets();
        beginWithAFullLine();
        writes();
        writeRefused();
        commits();
        commitGoesToTheKnownMaster();
        commitRefused();
        givesUp();
        latecomers();
        wrongClients();
        DUE.end();
    }

    private static void beginSendsAnAsk() {
        EpochStore x = new EpochStore();
        DUE.is("begin(2)", x.begin(2), true);
        DUE.is("one message", x.messages(), 1);
        DUE.is("an ASK of client 2", x.message(0), Kit.message(1, 2, 1, 0));
        DUE.is("asking", x.status(2), 1);
        Kit.deliverAll(x);
        DUE.is("open at version 10", x.status(2), Kit.status(2, 10, 0));
    }

    private static void beginIsRefusedWhileBusy() {
        EpochStore x = new EpochStore();
        x.begin(0);
        refused("asking", x);
        Kit.deliverAll(x);
        refused("open", x);
        x.write(0, 0, 1);
        x.commit(0);
        refused("pending", x);
    }

    private static void refused(String when, EpochStore x) {
        String before = Kit.seen(x);
        DUE.is("begin when " + when, x.begin(0), false);
        DUE.is("nothing has changed when " + when, Kit.seen(x).equals(before), true);
    }

    private static void beginAfterEachEnd() {
        EpochStore x = new EpochStore();
        x.begin(0);
        x.giveUp(0);
        DUE.is("begin after DROPPED", x.begin(0), true);
        Kit.deliverAll(x);
        x.commit(0);
        DUE.is("begin after COMMITTED", x.begin(0), true);
        Kit.deliverAll(x);
        x.write(0, 0, 1);
        x.commit(0);
        x.giveUp(0);
        DUE.is("begin after UNKNOWN", x.begin(0), true);
        Kit.deliverAll(x);
        conflict(x);
        DUE.is("conflict", x.status(0), Kit.status(5, 11, 0));
        DUE.is("begin after CONFLICT", x.begin(0), true);
        Kit.deliverAll(x);
        x.recover(0);
        x.find(0);
        x.write(0, 0, 1);
        x.commit(0);
        Kit.deliverAll(x);
        DUE.is("too old", x.status(0), Kit.status(6, 12, 0));
        DUE.is("begin after TOO OLD", x.begin(0), true);
        DUE.is("the read version is gone", x.status(0), 1);
    }

    /** Client 0, open at 11, reads key 4 and is overtaken by client 1. */
    private static void conflict(EpochStore x) {
        x.pull(1, 0);
        x.read(0, 4);
        Kit.put(x, 1, 4, 4);
        x.write(0, 5, 5);
        x.commit(0);
        Kit.deliverAll(x);
    }

    private static void beginForgets() {
        EpochStore x = new EpochStore();
        Kit.open(x, 0);
        x.read(0, 1);
        x.write(0, 2, 22);
        x.giveUp(0);
        x.begin(0);
        x.begin(1);
        Kit.deliverAll(x);
        DUE.is("what was written before", x.read(0, 2), 0);
        x.write(1, 1, 11);
        x.commit(1);
        Kit.deliverAll(x);
        x.write(0, 3, 33);
        x.commit(0);
        Kit.deliverAll(x);
        DUE.is("what was noted before", x.status(0), Kit.status(4, 10, 12));
        x.begin(0);
        DUE.is("the versions before", x.status(0), 1);
    }

    private static void beginWithAFullLine() {
        EpochStore x = new EpochStore();
        for (int i = 0; i < 24; i++) {
            x.begin(0);
            x.giveUp(0);
        }
        DUE.is("a full line", x.messages(), 24);
        DUE.is("begin all the same", x.begin(0), true);
        DUE.is("the ASK is lost", x.messages(), 24);
        Kit.deliverAll(x);
        DUE.is("no answer ever", x.status(0), 1);
    }

    private static void writes() {
        EpochStore x = new EpochStore();
        Kit.open(x, 0);
        DUE.is("write(0, 0, 1)", x.write(0, 0, 1), true);
        DUE.is("write(0, 0, 2)", x.write(0, 0, 2), true);
        DUE.is("write(0, 7, MIN)", x.write(0, 7, Integer.MIN_VALUE), true);
        DUE.is("write(0, 4, MAX)", x.write(0, 4, Integer.MAX_VALUE), true);
        x.commit(0);
        Kit.deliverAll(x);
        x.pull(0, 0);
        x.pull(1, 0);
        Kit.open(x, 1);
        DUE.is("the last write", x.read(1, 0), 2);
        DUE.is("the least int", x.read(1, 7), Integer.MIN_VALUE);
        DUE.is("the greatest int", x.read(1, 4), Integer.MAX_VALUE);
        DUE.is("a key without a write", x.read(1, 5), 0);
        Kit.put(x, 0, 0, 0);
        x.pull(0, 0);
        Kit.open(x, 2);
        DUE.is("0 takes the value away", x.read(2, 0), 0);
        DUE.is("as a record", x.storage(0), Kit.server(2, 1, 12));
        DUE.is("but not at an earlier version", x.read(1, 0), 2);
    }

    private static void writeRefused() {
        EpochStore x = new EpochStore();
        DUE.is("write before begin", x.write(0, 0, 1), false);
        x.begin(0);
        DUE.is("write when asking", x.write(0, 0, 1), false);
        Kit.deliverAll(x);
        for (int k : Kit.NO_KEYS) {
            DUE.is("write of key " + k, x.write(0, k, 1), false);
        }
        for (int c : Kit.NO_CLIENTS) {
            DUE.is("write of client " + c, x.write(c, 0, 1), false);
        }
        x.commit(0);
        DUE.is("nothing was written", x.status(0), Kit.status(4, 10, 0));
        DUE.is("write when committed", x.write(0, 0, 1), false);
        Kit.open(x, 0);
        x.write(0, 0, 1);
        x.commit(0);
        DUE.is("write when pending", x.write(0, 0, 2), false);
        x.giveUp(0);
        DUE.is("write when unknown", x.write(0, 0, 3), false);
        Kit.deliverAll(x);
        x.pull(0, 0);
        Kit.open(x, 1);
        DUE.is("what was committed", x.read(1, 0), 1);
    }

    private static void commits() {
        EpochStore x = new EpochStore();
        Kit.open(x, 0);
        x.read(0, 0);
        DUE.is("commit without writes", x.commit(0), true);
        DUE.is("committed at once", x.status(0), Kit.status(4, 10, 0));
        DUE.is("nothing sent", x.messages(), 0);
        Kit.open(x, 0);
        x.write(0, 5, 0);
        DUE.is("commit with a write of 0", x.commit(0), true);
        DUE.is("pending", x.status(0), Kit.status(3, 10, 0));
        DUE.is("a COMMIT", x.message(0), Kit.message(5, 0, 1, 10));
        DUE.is("alone", x.messages(), 1);
        Kit.deliverAll(x);
        DUE.is("committed with version 11", x.status(0), Kit.status(4, 10, 11));
    }

    private static void commitGoesToTheKnownMaster() {
        EpochStore x = new EpochStore();
        Kit.open(x, 0);
        x.recover(0);
        x.write(0, 1, 1);
        x.find(0);
        x.commit(0);
        DUE.is("to the master found since", x.message(0), Kit.message(5, 0, 2, 10));
        Kit.deliverAll(x);
        DUE.is("too old there", x.status(0), Kit.status(6, 10, 0));
        Kit.open(x, 1);
        DUE.is("one that did not find gets no answer", x.status(1), 1);
    }

    private static void commitRefused() {
        EpochStore x = new EpochStore();
        DUE.is("commit before begin", x.commit(1), false);
        x.begin(1);
        DUE.is("commit when asking", x.commit(1), false);
        Kit.deliverAll(x);
        x.write(1, 1, 1);
        DUE.is("commit when open", x.commit(1), true);
        DUE.is("commit when pending", x.commit(1), false);
        DUE.is("one COMMIT", x.messages(), 1);
        x.giveUp(1);
        DUE.is("commit when unknown", x.commit(1), false);
        x.begin(1);
        x.giveUp(1);
        DUE.is("commit when dropped", x.commit(1), false);
    }

    private static void givesUp() {
        EpochStore x = new EpochStore();
        DUE.is("giveUp before begin", x.giveUp(0), false);
        DUE.is("no state yet", x.status(0), 0);
        x.begin(0);
        DUE.is("giveUp when asking", x.giveUp(0), true);
        DUE.is("dropped", x.status(0), 8);
        DUE.is("giveUp when dropped", x.giveUp(0), false);
        Kit.deliverAll(x);
        DUE.is("dropped all the same", x.status(0), 8);
        Kit.open(x, 0);
        DUE.is("giveUp when open", x.giveUp(0), true);
        DUE.is("dropped with its read version", x.status(0), Kit.status(8, 10, 0));
        Kit.open(x, 0);
        x.write(0, 0, 9);
        x.commit(0);
        DUE.is("giveUp when pending", x.giveUp(0), true);
        DUE.is("unknown", x.status(0), Kit.status(7, 10, 0));
        DUE.is("giveUp when unknown", x.giveUp(0), false);
        Kit.deliverAll(x);
        DUE.is("unknown after the result too", x.status(0), Kit.status(7, 10, 0));
        DUE.is("though it was committed", x.committed(1), 11);
        Kit.put(x, 1, 1, 1);
        DUE.is("giveUp when committed", x.giveUp(1), false);
        DUE.is("committed", x.status(1), Kit.status(4, 11, 12));
    }

    private static void latecomers() {
        EpochStore x = new EpochStore();
        x.begin(0);
        for (int i = 0; i < 7; i++) {
            x.deliver(0);
        }
        x.giveUp(0);
        x.begin(0);
        DUE.is("a READ VERSION of the earlier transaction", x.deliver(0), 4);
        DUE.is("does nothing", x.status(0), 1);
        Kit.deliverAll(x);
        x.write(0, 0, 1);
        x.commit(0);
        for (int i = 0; i < 7; i++) {
            x.deliver(0);
        }
        x.giveUp(0);
        x.begin(0);
        DUE.is("a RESULT of the earlier transaction", x.message(0), Kit.message(8, 0, 1, 11));
        DUE.is("is delivered", x.deliver(0), 8);
        DUE.is("and does nothing", x.status(0), 1);
        Kit.deliverAll(x);
        x.write(0, 0, 2);
        x.commit(0);
        DUE.is("pending at 11", x.status(0), Kit.status(3, 11, 0));
    }

    private static void wrongClients() {
        EpochStore x = new EpochStore();
        for (int c : Kit.NO_CLIENTS) {
            DUE.is("begin(" + c + ")", x.begin(c), false);
            DUE.is("commit(" + c + ")", x.commit(c), false);
            DUE.is("giveUp(" + c + ")", x.giveUp(c), false);
            DUE.is("status(" + c + ")", x.status(c), -1);
        }
        DUE.is("nothing sent", x.messages(), 0);
    }
}
