/** Promises 17, 21 and 22: push, master, committed; and what a master does with its messages. */
public final class MasterTest {
    private static final Due DUE = new Due("MasterTest");

    public static void main(String[] args) {
        questionsNeedAllLogs();
        eightQuestions();
        questionsGetWhatIsCommitted();
        doneQuestionsAreDone();
        commitsInOrder();
        eightOnTheirWay();
        tooOldByTheWindow();
        tooOldByTheStart();
        conflictsAboveTheReadVersion();
        conflictsGrowLast();
        resolversAreApart();
        resolversBeginAtTheStart();
        pushesAgain();
        pushIntoAFullLine();
        pushWithFewerLogs();
        noSuchMaster();
        DUE.end();
    }

    private static void questionsNeedAllLogs() {
        EpochStore x = new EpochStore();
        x.begin(0);
        x.deliver(0);
        DUE.is("a question", x.master(1), Kit.master(1, 0, 10));
        x.deliver(0);
        x.deliver(0);
        x.deliver(1);
        x.deliver(1);
        DUE.is("two confirmations", x.master(1), Kit.master(1, 0, 10));
        DUE.is("are not enough", x.messages(), 1);
        x.deliver(0);
        x.deliver(0);
        DUE.is("three are", x.master(1), Kit.master(0, 0, 10));
        DUE.is("READ VERSION", x.message(0), Kit.message(4, 0, 1, 10));
    }

    private static void eightQuestions() {
        EpochStore x = new EpochStore();
        for (int i = 0; i < 8; i++) {
            x.begin(0);
            x.giveUp(0);
            x.deliver(0);
            Kit.loseAll(x);
        }
        DUE.is("eight", x.master(1), Kit.master(8, 0, 10));
        x.begin(0);
        x.deliver(0);
        DUE.is("not nine", x.master(1), Kit.master(8, 0, 10));
        DUE.is("nothing is sent", x.messages(), 0);
        EpochStore y = Kit.withOneLog();
        for (int i = 0; i < 8; i++) {
            y.begin(0);
            y.giveUp(0);
        }
        for (int i = 0; i < 8; i++) {
            y.deliver(0);
        }
        DUE.is("eight on one log", y.master(2), Kit.master(8, 0, 20));
        y.deliver(3);
        y.deliver(7);
        DUE.is("one of them is done", y.master(2), Kit.master(7, 0, 20));
        y.begin(0);
        y.deliver(8);
        DUE.is("there is room for one more", y.master(2), Kit.master(8, 0, 20));
        Kit.deliverAll(y);
        DUE.is("all are done", y.master(2), Kit.master(0, 0, 20));
        DUE.is("the last of them is open", y.status(0), Kit.status(2, 20, 0));
    }

    private static void questionsGetWhatIsCommitted() {
        EpochStore x = new EpochStore();
        x.begin(0);
        for (int i = 0; i < 6; i++) {
            x.deliver(0);
        }
        Kit.loseAll(x);
        Kit.put(x, 1, 0, 1);
        Kit.toLogTwoAlone(x, 1, 0, 2);
        x.begin(2);
        Kit.deliverAll(x);
        DUE.is("not what was given or pushed since", x.status(2), Kit.status(2, 11, 0));
        DUE.is("LAST", x.master(1), Kit.master(1, 1, 12));
    }

    private static void doneQuestionsAreDone() {
        EpochStore x = new EpochStore();
        x.begin(0);
        x.begin(1);
        x.deliver(0);
        x.deliver(0);
        DUE.is("two questions", x.master(1), Kit.master(2, 0, 10));
        for (int i = 0; i < 3; i++) {
            x.deliver(3);
        }
        for (int i = 0; i < 3; i++) {
            x.deliver(3);
        }
        DUE.is("the second is done first", x.master(1), Kit.master(1, 0, 10));
        DUE.is("for client 1", x.message(3), Kit.message(4, 1, 1, 10));
        Kit.deliverAll(x);
        DUE.is("then the first", x.master(1), Kit.master(0, 0, 10));
        DUE.is("client 0", x.status(0), Kit.status(2, 10, 0));
        DUE.is("client 1", x.status(1), Kit.status(2, 10, 0));
    }

    /** The ACKs of the second record come before those of the first. */
    private static void commitsInOrder() {
        EpochStore x = Kit.withTwoCommits();
        for (int i = 0; i < 8; i++) {
            x.deliver(0);
        }
        DUE.is("six ACKs", x.messages(), 6);
        for (int i = 0; i < 3; i++) {
            x.deliver(3);
        }
        DUE.is("the second waits for the first", x.committed(1), 10);
        DUE.is("both on their way", x.master(1), Kit.master(0, 2, 12));
        x.deliver(0);
        x.deliver(0);
        DUE.is("one log is missing", x.committed(1), 10);
        x.deliver(0);
        DUE.is("both", x.committed(1), 12);
        DUE.is("none on its way", x.master(1), Kit.master(0, 0, 12));
        DUE.is("RESULT of the first", x.message(0), Kit.message(8, 0, 1, 11));
        DUE.is("RESULT of the second", x.message(1), Kit.message(8, 1, 1, 12));
    }

    private static void eightOnTheirWay() {
        EpochStore x = Kit.withOneLog();
        for (int i = 0; i < 8; i++) {
            Kit.open(x, 0);
            x.write(0, 0, i);
            x.commit(0);
            x.deliver(0);
            Kit.loseAll(x);
            x.giveUp(0);
        }
        DUE.is("eight", x.master(2), Kit.master(0, 8, 28));
        Kit.open(x, 0);
        x.write(0, 0, 9);
        x.commit(0);
        DUE.is("a ninth", x.deliver(0), 5);
        DUE.is("nothing is done", x.master(2), Kit.master(0, 8, 28));
        DUE.is("nothing is sent", x.messages(), 0);
        DUE.is("eight are pushed", x.push(2), 8);
        x.deliver(0);
        x.deliver(7);
        DUE.is("the oldest is committed", x.master(2), Kit.master(0, 7, 28));
        DUE.is("by its version", x.committed(2), 21);
        Kit.loseAll(x);
        x.giveUp(0);
        Kit.open(x, 0);
        x.write(0, 0, 9);
        x.commit(0);
        x.deliver(0);
        DUE.is("there is room for one more", x.master(2), Kit.master(0, 8, 29));
    }

    /** Client 1 is open at 20; client 0 brings LAST to what is asked for. */
    private static int resultWithLast(int last) {
        EpochStore x = Kit.withOneLog();
        x.find(1);
        Kit.open(x, 1);
        for (int v = 21; v <= last; v++) {
            Kit.put(x, 0, 0, v);
        }
        x.write(1, 1, 1);
        x.commit(1);
        Kit.deliverAll(x);
        DUE.is("LAST grows unless it is too old", x.master(2), Kit.master(0, 0, last <= 32 ? last + 1 : last));
        return x.status(1);
    }

    private static void tooOldByTheWindow() {
        DUE.is("LAST is 32", resultWithLast(32), Kit.status(4, 20, 33));
        DUE.is("LAST is 33", resultWithLast(33), Kit.status(6, 20, 0));
    }

    private static void tooOldByTheStart() {
        EpochStore x = new EpochStore();
        Kit.open(x, 0);
        Kit.put(x, 1, 0, 1);
        x.recover(0);
        x.find(0);
        x.write(0, 1, 1);
        x.commit(0);
        Kit.deliverAll(x);
        DUE.is("below the START, within 12", x.status(0), Kit.status(6, 10, 0));
        DUE.is("LAST stays", x.master(2), Kit.master(0, 0, 21));
        Kit.put(x, 0, 1, 1);
        DUE.is("at the START", x.status(0), Kit.status(4, 21, 22));
    }

    private static void conflictsAboveTheReadVersion() {
        EpochStore x = new EpochStore();
        Kit.put(x, 0, 0, 1);
        x.pull(0, 0);
        Kit.open(x, 0);
        x.read(0, 0);
        x.write(0, 0, 2);
        x.commit(0);
        Kit.deliverAll(x);
        DUE.is("a write at the read version is none", x.status(0), Kit.status(4, 11, 12));
        x.begin(0);
        x.begin(1);
        Kit.deliverAll(x);
        x.write(0, 0, 3);
        x.write(1, 0, 4);
        x.commit(0);
        x.commit(1);
        Kit.deliverAll(x);
        DUE.is("two writes without a read: 0", x.status(0), Kit.status(4, 12, 13));
        DUE.is("two writes without a read: 1", x.status(1), Kit.status(4, 12, 14));
    }

    private static void conflictsGrowLast() {
        EpochStore x = new EpochStore();
        Kit.toLogTwoAlone(x, 0, 0, 1);
        Kit.conflict(x, 1, 0);
        DUE.is("LAST", x.master(1), Kit.master(0, 1, 12));
        Kit.open(x, 1);
        x.write(1, 2, 2);
        x.commit(1);
        x.deliver(0);
        DUE.is("the next version", x.message(0), Kit.message(6, 0, 1, 13));
        x.push(1);
        Kit.deliverAll(x);
        DUE.is("the version before is that of the latest record", x.log(2), Kit.server(2, 1, 13));
        x.push(1);
        Kit.deliverAll(x);
        DUE.is("in all logs", x.log(0), Kit.server(2, 1, 13));
        DUE.is("committed", x.committed(1), 13);
    }

    /** A conflict at the keys 0 .. 3 does not hold the other resolver back, and the other way round. */
    private static void resolversAreApart() {
        DUE.is("the resolver without a conflict let its write pass", afterHalfAConflict(0, 4), 5);
        DUE.is("and so does the first one", afterHalfAConflict(7, 3), 5);
        DUE.is("the resolver with a conflict let none pass", afterHalfAConflict(0, 1), 4);
        DUE.is("and so does the second one", afterHalfAConflict(7, 6), 4);
        DUE.is("key 4 is not the first one's: noted", afterHalfAConflict(4, 3), 5);
        DUE.is("key 4 is not the first one's: written", afterHalfAConflict(5, 4), 4);
        DUE.is("key 3 is not the second one's: noted", afterHalfAConflict(3, 4), 5);
        DUE.is("key 3 is not the second one's: written", afterHalfAConflict(1, 3), 4);
    }

    /** A conflict at one key, with a write of another: the state of one that noted the other before. */
    private static int afterHalfAConflict(int conflict, int other) {
        EpochStore x = new EpochStore();
        x.begin(0);
        x.begin(1);
        x.begin(2);
        Kit.deliverAll(x);
        x.read(1, conflict);
        x.read(2, other);
        x.write(0, conflict, 1);
        x.write(1, other, 1);
        x.write(2, 2, 1);
        x.commit(0);
        Kit.deliverAll(x);
        x.commit(1);
        Kit.deliverAll(x);
        DUE.is("a conflict", x.status(1), Kit.status(5, 10, 0));
        x.commit(2);
        Kit.deliverAll(x);
        return x.status(2) % 16;
    }

    private static void resolversBeginAtTheStart() {
        EpochStore x = Kit.withOneLog();
        Kit.open(x, 0);
        DUE.is("all keys are noted", x.range(0, 0, 7), 0);
        x.write(0, 0, 1);
        x.commit(0);
        Kit.deliverAll(x);
        DUE.is("no conflict with the START", x.status(0), Kit.status(4, 20, 21));
    }

    private static void pushesAgain() {
        EpochStore x = Kit.withTwoCommits();
        DUE.is("nothing on its way", x.push(1), 0);
        x.deliver(0);
        x.deliver(0);
        x.deliver(1);
        x.deliver(5);
        Kit.loseAll(x);
        DUE.is("log 1 has acknowledged the first", x.push(1), 5);
        int[][] due = {{0, 11}, {2, 11}, {0, 12}, {1, 12}, {2, 12}};
        for (int i = 0; i < due.length; i++) {
            DUE.is("PUSH " + i, x.message(i), Kit.message(6, due[i][0], 1, due[i][1]));
        }
        DUE.is("both on their way", x.master(1), Kit.master(0, 2, 12));
        Kit.deliverAll(x);
        DUE.is("committed", x.committed(1), 12);
        DUE.is("nothing on its way now", x.push(1), 0);
        DUE.is("nothing sent", x.messages(), 0);
    }

    private static void pushIntoAFullLine() {
        EpochStore x = new EpochStore();
        Kit.open(x, 0);
        x.write(0, 0, 1);
        x.commit(0);
        x.deliver(0);
        for (int i = 0; i < 7; i++) {
            DUE.is("three sent", x.push(1), 3);
        }
        DUE.is("the line is full", x.messages(), 24);
        DUE.is("three sent and lost", x.push(1), 3);
        x.lose(0);
        DUE.is("three sent, two of them lost", x.push(1), 3);
        DUE.is("the line is full again", x.messages(), 24);
        DUE.is("with that for log 0", x.message(23), Kit.message(6, 0, 1, 11));
    }

    private static void pushWithFewerLogs() {
        EpochStore x = new EpochStore();
        x.stop(1, 1);
        x.recover(0);
        x.start(1, 1);
        x.find(0);
        x.begin(0);
        x.deliver(0);
        DUE.is("two CONFIRMs", x.messages(), 2);
        DUE.is("the second is log 2's", x.message(1), Kit.message(2, 2, 2, 0));
        Kit.deliverAll(x);
        x.write(0, 0, 1);
        x.commit(0);
        x.deliver(0);
        DUE.is("two PUSHes", x.messages(), 2);
        DUE.is("the second is log 2's too", x.message(1), Kit.message(6, 2, 2, 21));
        DUE.is("push", x.push(2), 2);
        Kit.deliverAll(x);
        DUE.is("two ACKs are enough", x.status(0), Kit.status(4, 20, 21));
        DUE.is("log 1 has nothing", x.log(1), Kit.server(0, 1, 10));
    }

    private static void noSuchMaster() {
        EpochStore x = new EpochStore();
        for (int e : new int[] {-1, 0, 2, 9, 10, Integer.MIN_VALUE, Integer.MAX_VALUE}) {
            DUE.is("push(" + e + ")", x.push(e), -1);
            DUE.is("master(" + e + ")", x.master(e), -1);
            DUE.is("committed(" + e + ")", x.committed(e), -1);
        }
        x.recover(0);
        DUE.is("master 1 stays", x.master(1), Kit.master(0, 0, 10));
        DUE.is("with what it committed", x.committed(1), 10);
        DUE.is("committed(2)", x.committed(2), 20);
        x.stop(3, 1);
        DUE.is("push of a stopped one", x.push(1), -1);
        DUE.is("master of a stopped one", x.master(1), -1);
        DUE.is("committed of a stopped one", x.committed(1), -1);
    }
}
