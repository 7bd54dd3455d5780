/** Runs of just 512 calls: the last one answers as the first ones do. */
public final class CallsTest {
    private static final int CALLS = 512;
    private static final Due DUE = new Due("CallsTest");

    public static void main(String[] args) {
        asManyRecordsAsCallsAllow();
        asManyTransactionsAsCallsAllow();
        aMessageOfTheFirstTransaction();
        refusedCallsOnly();
        DUE.end();
    }

    private static void deliver(EpochStore x, int times) {
        for (int i = 0; i < times; i++) {
            x.deliver(0);
        }
    }

    /** 4 calls, then 11 for each of 46 records: 510. */
    private static void asManyRecordsAsCallsAllow() {
        EpochStore x = new EpochStore();
        x.stop(1, 1);
        x.stop(1, 2);
        x.recover(0);
        x.find(2);
        for (int i = 1; i <= 46; i++) {
            x.begin(2);
            deliver(x, 4);
            x.write(2, i % 8, i);
            x.commit(2);
            deliver(x, 4);
        }
        DUE.is("call 511", x.status(2), Kit.status(4, 65, 66));
        DUE.is("call 512", x.log(0), Kit.server(46, 2, 66));
    }

    /** 3 calls for each of 167 transactions, then 8 to ask, and 2 more: 511. */
    private static void asManyTransactionsAsCallsAllow() {
        EpochStore x = new EpochStore();
        for (int i = 0; i < 167; i++) {
            x.begin(1);
            x.lose(0);
            x.giveUp(1);
        }
        x.begin(1);
        deliver(x, 8);
        DUE.is("call 511", x.status(1), Kit.status(2, 10, 0));
        DUE.is("call 512", x.range(1, 0, 7), 0);
    }

    /**
     * 9 calls until its READ VERSION lies in the line and it is given up, 2 for each other that is
     * given up, then 3: with 250 others, 512. Whatever the number of the last one: it is another.
     */
    private static void aMessageOfTheFirstTransaction() {
        for (int others = 0; others <= 250; others++) {
            EpochStore x = new EpochStore();
            x.begin(0);
            deliver(x, 7);
            x.giveUp(0);
            for (int i = 0; i < others; i++) {
                x.begin(0);
                x.giveUp(0);
            }
            DUE.is("begin after " + others + " others", x.begin(0), true);
            DUE.is("READ VERSION after " + others + " others", x.deliver(0), 4);
            DUE.is("does nothing after " + others + " others", x.status(0), 1);
        }
    }

    private static void refusedCallsOnly() {
        EpochStore x = new EpochStore();
        for (int i = 1; i < CALLS; i++) {
            x.begin(3);
        }
        DUE.is("call 512 after refused ones", x.begin(2), true);
    }
}
