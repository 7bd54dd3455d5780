/** Promises 17, 21 and 22: push, master, committed; and what a master does with its messages. */
public final class MasterTest {
    private static final Due DUE = new Due("MasterTest");

    public static void main(String[] args) {
        questionsGetWhatIsCommitted();
        doneQuestionsAreDone();
        commitsInOrder();
        conflictsAboveTheReadVersion();
        conflictsGrowLast();
        pushesAgain();
        pushWithFewerLogs();
        DUE.end();
    }

    private static void questionsGetWhatIsCommitted() {
        EpochStore x = new EpochStore();
        x.begin(0);
        for (int i = 0; i < 6; i++) {
            x.deliver(0);
        }
        Kit.loseAll(x);
        Kit.put(x, 1, 0, 1);
        Kit.toLogTwoAlone(x, 1, 0, 2);
        x.begin(2);
        Kit.deliverAll(x);
        DUE.is("not what was given or pushed since", x.status(2), Kit.status(2, 11, 0));
        DUE.is("LAST", x.master(1), Kit.master(1, 1, 12));
    }

    private static void doneQuestionsAreDone() {
        EpochStore x = new EpochStore();
        x.begin(0);
        x.begin(1);
        x.deliver(0);
        x.deliver(0);
        DUE.is("two questions", x.master(1), Kit.master(2, 0, 10));
        for (int i = 0; i < 3; i++) {
            x.deliver(3);
        }
        for (int i = 0; i < 3; i++) {
            x.deliver(3);
        }
        DUE.is("the second is done first", x.master(1), Kit.master(1, 0, 10));
        DUE.is("for client 1", x.message(3), Kit.message(4, 1, 1, 10));
        Kit.deliverAll(x);
        DUE.is("then the first", x.master(1), Kit.master(0, 0, 10));
        DUE.is("client 0", x.status(0), Kit.status(2, 10, 0));
        DUE.is("client 1", x.status(1), Kit.status(2, 10, 0));
    }

    /** The ACKs of the second record come before those of the first. */
    private static void commitsInOrder() {
        EpochStore x = Kit.withTwoCommits();
        for (int i = 0; i < 8; i++) {
            x.deliver(0);
        }
        DUE.is("six ACKs", x.messages(), 6);
        for (int i = 0; i < 3; i++) {
            x.deliver(3);
        }
        DUE.is("the second waits for the first", x.committed(1), 10);
        DUE.is("both on their way", x.master(1), Kit.master(0, 2, 12));
        x.deliver(0);
        x.deliver(0);
        DUE.is("one log is missing", x.committed(1), 10);
        x.deliver(0);
        DUE.is("both", x.committed(1), 12);
        DUE.is("none on its way", x.master(1), Kit.master(0, 0, 12));
        DUE.is("RESULT of the first", x.message(0), Kit.message(8, 0, 1, 11));
        DUE.is("RESULT of the second", x.message(1), Kit.message(8, 1, 1, 12));
    }

    private static void conflictsAboveTheReadVersion() {
        EpochStore x = new EpochStore();
        Kit.put(x, 0, 0, 1);
        x.pull(0, 0);
        Kit.open(x, 0);
        x.read(0, 0);
        x.write(0, 0, 2);
        x.commit(0);
        Kit.deliverAll(x);
        DUE.is("a write at the read version is none", x.status(0), Kit.status(4, 11, 12));
        x.begin(0);
        x.begin(1);
        Kit.deliverAll(x);
        x.write(0, 0, 3);
        x.write(1, 0, 4);
        x.commit(0);
        x.commit(1);
        Kit.deliverAll(x);
        DUE.is("two writes without a read: 0", x.status(0), Kit.status(4, 12, 13));
        DUE.is("two writes without a read: 1", x.status(1), Kit.status(4, 12, 14));
    }

    private static void conflictsGrowLast() {
        EpochStore x = new EpochStore();
        Kit.toLogTwoAlone(x, 0, 0, 1);
        Kit.conflict(x, 1, 0);
        DUE.is("LAST", x.master(1), Kit.master(0, 1, 12));
        Kit.open(x, 1);
        x.write(1, 2, 2);
        x.commit(1);
        x.deliver(0);
        DUE.is("the next version", x.message(0), Kit.message(6, 0, 1, 13));
        x.push(1);
        Kit.deliverAll(x);
        DUE.is("the version before is that of the latest record", x.log(2), Kit.server(2, 1, 13));
        x.push(1);
        Kit.deliverAll(x);
        DUE.is("in all logs", x.log(0), Kit.server(2, 1, 13));
        DUE.is("committed", x.committed(1), 13);
    }

    private static void pushesAgain() {
        EpochStore x = Kit.withTwoCommits();
        DUE.is("nothing on its way", x.push(1), 0);
        x.deliver(0);
        x.deliver(0);
        x.deliver(1);
        x.deliver(5);
        Kit.loseAll(x);
        DUE.is("log 1 has acknowledged the first", x.push(1), 5);
        int[][] due = {{0, 11}, {2, 11}, {0, 12}, {1, 12}, {2, 12}};
        for (int i = 0; i < due.length; i++) {
            DUE.is("PUSH " + i, x.message(i), Kit.message(6, due[i][0], 1, due[i][1]));
        }
        DUE.is("both on their way", x.master(1), Kit.master(0, 2, 12));
        Kit.deliverAll(x);
        DUE.is("committed", x.committed(1), 12);
        DUE.is("nothing on its way now", x.push(1), 0);
        DUE.is("nothing sent", x.messages(), 0);
    }

    private static void pushWithFewerLogs() {
        EpochStore x = new EpochStore();
        x.stop(1, 1);
        x.recover(0);
        x.start(1, 1);
        x.find(0);
        x.begin(0);
        x.deliver(0);
        DUE.is("two CONFIRMs", x.messages(), 2);
        DUE.is("the second is log 2's", x.message(1), Kit.message(2, 2, 2, 0));
        Kit.deliverAll(x);
        x.write(0, 0, 1);
        x.commit(0);
        x.deliver(0);
        DUE.is("two PUSHes", x.messages(), 2);
        DUE.is("the second is log 2's too", x.message(1), Kit.message(6, 2, 2, 21));
        DUE.is("push", x.push(2), 2);
        Kit.deliverAll(x);
        DUE.is("two ACKs are enough", x.status(0), Kit.status(4, 20, 21));
        DUE.is("log 1 has nothing", x.log(1), Kit.server(0, 1, 10));
    }
}
