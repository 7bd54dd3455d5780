/** Promise 19, and what a log does with CONFIRM and PUSH. */
public final class LogTest {
    private static final Due DUE = new Due("LogTest");

    public static void main(String[] args) {
        takesRecordsInOrder();
        acknowledgesWhatItHas();
        DUE.end();
    }

    /** Two records on their way, 11 and 12, and their PUSHes in the line: 11 to 0, 1, 2, then 12 to 0, 1, 2. */
    private static EpochStore twoOnTheirWay() {
        EpochStore x = Kit.withTwoCommits();
        x.deliver(0);
        x.deliver(0);
        return x;
    }

    private static void takesRecordsInOrder() {
        EpochStore x = twoOnTheirWay();
        DUE.is("the second first", x.deliver(3), 6);
        DUE.is("is not taken", x.log(0), Kit.server(0, 1, 10));
        DUE.is("nor acknowledged", x.messages(), 5);
        x.deliver(0);
        DUE.is("the first", x.log(0), Kit.server(1, 1, 11));
        DUE.is("is acknowledged", x.message(4), Kit.message(7, 0, 1, 11));
        x.push(1);
        Kit.deliverAll(x);
        DUE.is("both, after a push", x.log(0), Kit.server(2, 1, 12));
        DUE.is("the other log", x.log(1), Kit.server(2, 1, 12));
    }

    private static void acknowledgesWhatItHas() {
        EpochStore x = twoOnTheirWay();
        x.push(1);
        for (int i = 0; i < 6; i++) {
            x.deliver(0);
        }
        DUE.is("each log has both", x.log(2), Kit.server(2, 1, 12));
        for (int i = 0; i < 6; i++) {
            x.lose(6);
        }
        DUE.is("the PUSHes again", x.messages(), 6);
        for (int i = 0; i < 6; i++) {
            x.deliver(0);
        }
        DUE.is("are acknowledged", x.message(0), Kit.message(7, 0, 1, 11));
        DUE.is("the last too", x.message(5), Kit.message(7, 2, 1, 12));
        DUE.is("and not added", x.log(2), Kit.server(2, 1, 12));
        Kit.deliverAll(x);
        DUE.is("committed by that", x.committed(1), 12);
    }
}
