/**
 * The edges of a log: versions before and about its END, messages of its own epoch and of others,
 * 100 records, and the numbers of logs.
 */
public final class LogEdgesTest {
    private static final Due DUE = new Due("LogEdgesTest");

    public static void main(String[] args) {
        theVersionBeforeAboutEnd();
        theVersionBeforeWithAGap();
        theVersionBeforeInANewEpoch();
        aVersionNotAboveEnd();
        aConfirmOfAnotherEpoch();
        aPushOfAnotherEpoch();
        aPushOfAnotherEpochThatWouldFit();
        aHundredRecords();
        numbersOfLogs();
        DUE.end();
    }

    /** The records 11 .. 13 are on their way; their PUSHes for log 0 are messages 0, 3 and 6. */
    private static EpochStore withThreeOnWay() {
        EpochStore x = new EpochStore();
        for (int k = 0; k < 3; k++) {
            Kit.putOnWay(x, k, k + 1);
        }
        x.push(1);
        return x;
    }

    private static void theVersionBeforeAboutEnd() {
        EpochStore x = withThreeOnWay();
        DUE.is("12, with 11 before it, when END is 10", x.deliver(3), 6);
        DUE.is("is not added", x.log(0), Kit.server(0, 1, 10));
        DUE.is("and not acknowledged", x.messages(), 8);
        DUE.is("11, with 10 before it, when END is 10", x.deliver(0), 6);
        DUE.is("is added", x.log(0), Kit.server(1, 1, 11));
        DUE.is("and acknowledged", x.message(7), Kit.message(7, 0, 1, 11));
        DUE.is("13, with 12 before it, when END is 11", x.message(4), Kit.message(6, 0, 1, 13));
        x.deliver(4);
        DUE.is("is not added", x.log(0), Kit.server(1, 1, 11));
        DUE.is("and not acknowledged", x.messages(), 7);
    }

    /** Version 12 was given to a conflict, so 11 is before 13. */
    private static void theVersionBeforeWithAGap() {
        EpochStore x = new EpochStore();
        Kit.putOnWay(x, 0, 1);
        Kit.conflict(x, 1, 0);
        Kit.putOnWay(x, 1, 1);
        x.push(1);
        DUE.is("a PUSH of 13", x.message(3), Kit.message(6, 0, 1, 13));
        x.deliver(3);
        DUE.is("is not added when END is 10", x.log(0), Kit.server(0, 1, 10));
        x.deliver(0);
        x.push(1);
        int last = x.messages() - 3;
        DUE.is("a PUSH of 13 again", x.message(last), Kit.message(6, 0, 1, 13));
        x.deliver(last);
        DUE.is("is added when END is 11", x.log(0), Kit.server(2, 1, 13));
    }

    private static void theVersionBeforeInANewEpoch() {
        EpochStore x = new EpochStore();
        Kit.put(x, 0, 0, 1);
        x.recover(0);
        x.find(0);
        Kit.putOnWay(x, 0, 2);
        x.push(2);
        DUE.is("a PUSH with END, which grew by 10, before it", x.message(0), Kit.message(6, 0, 2, 22));
        x.deliver(0);
        DUE.is("is added", x.log(0), Kit.server(2, 2, 22));
    }

    /** Log 0 has 11 and 12, and each of 11 .. 13 is pushed to it once more. */
    private static void aVersionNotAboveEnd() {
        for (int record = 0; record < 3; record++) {
            EpochStore x = withThreeOnWay();
            x.deliver(0);
            x.deliver(2);
            Kit.loseAll(x);
            DUE.is("END is 12", x.log(0), Kit.server(2, 1, 12));
            x.push(1);
            int place = 3 * record;
            int version = 11 + record;
            DUE.is("a PUSH of it", x.message(place), Kit.message(6, 0, 1, version));
            x.deliver(place);
            DUE.is("log 0 after " + version, x.log(0), version > 12 ? Kit.server(3, 1, 13) : Kit.server(2, 1, 12));
            DUE.is("an ACK of " + version, x.message(8), Kit.message(7, 0, 1, version));
        }
        EpochStore y = withThreeOnWay();
        y.deliver(0);
        y.deliver(5);
        DUE.is("one above END, without the one before it: nothing", y.log(0), Kit.server(1, 1, 11));
        DUE.is("no ACK but that of 11", y.messages(), 8);
    }

    /** Log 2 stays in epoch 1, as it is down in the recovery. */
    private static void recoverWithoutLogTwo(EpochStore x) {
        x.stop(1, 2);
        x.recover(0);
        x.start(1, 2);
    }

    private static void aConfirmOfAnotherEpoch() {
        EpochStore x = new EpochStore();
        x.begin(0);
        x.deliver(0);
        recoverWithoutLogTwo(x);
        DUE.is("a CONFIRM of epoch 1 to log 0 in epoch 2", x.deliver(0), 2);
        DUE.is("is not answered", x.messages(), 2);
        DUE.is("a CONFIRM of epoch 1 to log 2 in epoch 1", x.deliver(1), 2);
        DUE.is("is answered", x.message(1), Kit.message(3, 2, 1, 0));
        EpochStore y = Kit.inEpoch(2);
        y.find(0);
        y.begin(0);
        y.deliver(0);
        DUE.is("a CONFIRM of epoch 2 to log 0 in epoch 2", y.deliver(0), 2);
        DUE.is("is answered", y.message(2), Kit.message(3, 0, 2, 0));
        y.recover(0);
        DUE.is("a CONFIRM of epoch 2 to log 1 in epoch 3", y.deliver(0), 2);
        DUE.is("is not answered", y.messages(), 2);
    }

    private static void aPushOfAnotherEpoch() {
        EpochStore x = withThreeOnWay();
        recoverWithoutLogTwo(x);
        DUE.is("11 to log 0 in epoch 2, below its END", x.deliver(0), 6);
        DUE.is("is not added", x.log(0), Kit.server(0, 2, 20));
        DUE.is("and not acknowledged", x.messages(), 8);
        DUE.is("11 to log 2 in epoch 1", x.message(1), Kit.message(6, 2, 1, 11));
        x.deliver(1);
        DUE.is("is added", x.log(2), Kit.server(1, 1, 11));
        DUE.is("and acknowledged", x.message(7), Kit.message(7, 2, 1, 11));
        x.stop(1, 2);
        DUE.is("12 to log 2 when it is down", x.message(3), Kit.message(6, 2, 1, 12));
        x.deliver(3);
        DUE.is("is not added", x.log(2), Kit.server(1, 1, 11) - Kit.UP);
    }

    /** Master 1 has records 11, 20 and 21; END of log 0 is 20, though in epoch 2. */
    private static void aPushOfAnotherEpochThatWouldFit() {
        EpochStore x = new EpochStore();
        Kit.putOnWay(x, 0, 1);
        for (int v = 12; v <= 19; v++) {
            Kit.conflict(x, 1, 0);
        }
        Kit.putOnWay(x, 1, 1);
        Kit.putOnWay(x, 2, 1);
        recoverWithoutLogTwo(x);
        x.push(1);
        DUE.is("a PUSH with END before it", x.message(6), Kit.message(6, 0, 1, 21));
        x.deliver(6);
        DUE.is("is not added", x.log(0), Kit.server(0, 2, 20));
        DUE.is("nor acknowledged", x.messages(), 8);
        DUE.is("a PUSH with END as its version", x.message(3), Kit.message(6, 0, 1, 20));
        x.deliver(3);
        DUE.is("is not acknowledged either", x.messages(), 7);
        DUE.is("nor added", x.log(0), Kit.server(0, 2, 20));
    }

    /**
     * Beyond the 512 calls, where the document leaves the answers free: within them no log gets
     * half as many records. This program keeps to the limit there too.
     */
    private static void aHundredRecords() {
        EpochStore x = Kit.withOneLog();
        for (int i = 0; i < 99; i++) {
            Kit.put(x, 0, i % 8, i);
        }
        DUE.is("99 records", x.log(0), Kit.server(99, 2, 119));
        Kit.putOnWay(x, 0, 100);
        x.push(2);
        x.push(2);
        x.deliver(0);
        DUE.is("the 100th is added", x.log(0), Kit.server(100, 2, 120));
        x.deliver(0);
        DUE.is("and once more acknowledged", x.messages(), 2);
        Kit.deliverAll(x);
        DUE.is("and committed", x.committed(2), 120);
        Kit.putOnWay(x, 0, 101);
        x.push(2);
        DUE.is("a PUSH of a 101st", x.deliver(0), 6);
        DUE.is("does nothing", x.log(0), Kit.server(100, 2, 120));
        DUE.is("and is not acknowledged", x.messages(), 0);
        DUE.is("it is on its way", x.master(2), Kit.master(0, 1, 121));
    }

    private static void numbersOfLogs() {
        EpochStore x = new EpochStore();
        for (int l : Kit.NO_LOGS) {
            DUE.is("log(" + l + ")", x.log(l), -1);
        }
        x.stop(1, 0);
        DUE.is("log(0), down", x.log(0), Kit.server(0, 1, 10) - Kit.UP);
        DUE.is("log(1), up", x.log(1), Kit.server(0, 1, 10));
        DUE.is("log(2), up", x.log(2), Kit.server(0, 1, 10));
    }
}
