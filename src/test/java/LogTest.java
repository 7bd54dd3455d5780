/** Promise 19, and what a log does with CONFIRM and PUSH. */
public final class LogTest {
    private static final Due DUE = new Due("LogTest");

    public static void main(String[] args) {
        takesRecordsInOrder();
        acknowledgesWhatItHas();
        confirmsItsOwnEpoch();
        takesItsOwnEpoch();
        noSuchLog();
        DUE.end();
    }

    /** Two records on their way, 11 and 12, and their PUSHes in the line: 11 to 0, 1, 2, then 12 to 0, 1, 2. */
    private static EpochStore twoOnTheirWay() {
        EpochStore x = Kit.withTwoCommits();
        x.deliver(0);
        x.deliver(0);
        return x;
    }

    private static void takesRecordsInOrder() {
        EpochStore x = twoOnTheirWay();
        DUE.is("the second first", x.deliver(3), 6);
        DUE.is("is not taken", x.log(0), Kit.server(0, 1, 10));
        DUE.is("nor acknowledged", x.messages(), 5);
        x.deliver(0);
        DUE.is("the first", x.log(0), Kit.server(1, 1, 11));
        DUE.is("is acknowledged", x.message(4), Kit.message(7, 0, 1, 11));
        x.push(1);
        Kit.deliverAll(x);
        DUE.is("both, after a push", x.log(0), Kit.server(2, 1, 12));
        DUE.is("the other log", x.log(1), Kit.server(2, 1, 12));
    }

    private static void acknowledgesWhatItHas() {
        EpochStore x = twoOnTheirWay();
        x.push(1);
        for (int i = 0; i < 6; i++) {
            x.deliver(0);
        }
        DUE.is("each log has both", x.log(2), Kit.server(2, 1, 12));
        for (int i = 0; i < 6; i++) {
            x.lose(6);
        }
        DUE.is("the PUSHes again", x.messages(), 6);
        for (int i = 0; i < 6; i++) {
            x.deliver(0);
        }
        DUE.is("are acknowledged", x.message(0), Kit.message(7, 0, 1, 11));
        DUE.is("the last too", x.message(5), Kit.message(7, 2, 1, 12));
        DUE.is("and not added", x.log(2), Kit.server(2, 1, 12));
        Kit.deliverAll(x);
        DUE.is("committed by that", x.committed(1), 12);
    }

    private static void confirmsItsOwnEpoch() {
        EpochStore x = new EpochStore();
        x.begin(0);
        x.deliver(0);
        x.stop(1, 2);
        x.recover(0);
        x.start(1, 2);
        DUE.is("a CONFIRM of an older epoch", x.deliver(0), 2);
        DUE.is("is not answered", x.messages(), 2);
        DUE.is("the log that stayed in that epoch", x.deliver(1), 2);
        DUE.is("answers", x.message(1), Kit.message(3, 2, 1, 0));
        EpochStore y = new EpochStore();
        y.recover(0);
        y.find(0);
        y.begin(0);
        y.deliver(0);
        DUE.is("a CONFIRM of the new epoch", y.deliver(0), 2);
        DUE.is("is answered", y.message(2), Kit.message(3, 0, 2, 0));
    }

    private static void takesItsOwnEpoch() {
        EpochStore x = twoOnTheirWay();
        x.stop(1, 2);
        x.recover(0);
        x.start(1, 2);
        DUE.is("a PUSH of an older epoch", x.deliver(0), 6);
        DUE.is("is not taken, nor acknowledged as being below END", x.messages(), 5);
        DUE.is("log 0", x.log(0), Kit.server(0, 2, 20));
        DUE.is("the log that stayed", x.deliver(1), 6);
        DUE.is("takes it", x.log(2), Kit.server(1, 1, 11));
        DUE.is("and acknowledges", x.message(4), Kit.message(7, 2, 1, 11));
        x.stop(1, 2);
        DUE.is("when it is down", x.deliver(3), 6);
        DUE.is("it does not", x.log(2), Kit.server(1, 1, 11) - Kit.UP);
    }

    private static void noSuchLog() {
        EpochStore x = new EpochStore();
        for (int l : new int[] {-1, 3, 4, Integer.MIN_VALUE, Integer.MAX_VALUE}) {
            DUE.is("log " + l, x.log(l), -1);
        }
        x.stop(1, 2);
        DUE.is("log 2, down", x.log(2), Kit.server(0, 1, 10) - Kit.UP);
    }
}
