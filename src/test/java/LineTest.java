/** Promises 10 to 13: messages, message, deliver, lose. */
public final class LineTest {
    private static final Due DUE = new Due("LineTest");

    public static void main(String[] args) {
        everyTypeOfMessage();
        resultsWithoutAVersion();
        anyMessageMayGo();
        whatIsSentComesBehind();
        DUE.end();
    }

    /** The first messages of the line: a call of the view and then the delivery of each. */
    private static void passes(EpochStore x, int... codes) {
        for (int code : codes) {
            DUE.is("message of type " + code % 16, x.message(0), code);
            DUE.is("delivered", x.deliver(0), code % 16);
        }
    }

    private static void everyTypeOfMessage() {
        EpochStore x = new EpochStore();
        x.recover(0);
        x.find(2);
        x.begin(2);
        passes(x, Kit.message(1, 2, 2, 0));
        DUE.is("three CONFIRMs", x.messages(), 3);
        passes(x, Kit.message(2, 0, 2, 0), Kit.message(2, 1, 2, 0), Kit.message(2, 2, 2, 0));
        passes(x, Kit.message(3, 0, 2, 0), Kit.message(3, 1, 2, 0), Kit.message(3, 2, 2, 0));
        passes(x, Kit.message(4, 2, 2, 20));
        x.write(2, 4, 4);
        x.commit(2);
        passes(x, Kit.message(5, 2, 2, 20));
        DUE.is("three PUSHes", x.messages(), 3);
        passes(x, Kit.message(6, 0, 2, 21), Kit.message(6, 1, 2, 21), Kit.message(6, 2, 2, 21));
        passes(x, Kit.message(7, 0, 2, 21), Kit.message(7, 1, 2, 21), Kit.message(7, 2, 2, 21));
        passes(x, Kit.message(8, 2, 2, 21));
        DUE.is("the line is empty", x.messages(), 0);
        DUE.is("committed", x.status(2), Kit.status(4, 20, 21));
    }

    private static void resultsWithoutAVersion() {
        EpochStore x = new EpochStore();
        Kit.open(x, 0);
        x.read(0, 0);
        x.write(0, 0, 1);
        Kit.put(x, 1, 0, 1);
        x.commit(0);
        x.deliver(0);
        passes(x, Kit.message(8, 0, 1, 0));
        DUE.is("conflict", x.status(0), Kit.status(5, 10, 0));
        Kit.open(x, 0);
        x.write(0, 0, 1);
        x.recover(0);
        x.find(0);
        x.commit(0);
        x.deliver(0);
        passes(x, Kit.message(8, 0, 2, 0));
        DUE.is("too old", x.status(0), Kit.status(6, 11, 0));
    }

    private static void anyMessageMayGo() {
        EpochStore x = new EpochStore();
        for (int c = 0; c < 3; c++) {
            x.begin(c);
        }
        DUE.is("lose the middle one", x.lose(1), true);
        DUE.is("two are left", x.messages(), 2);
        DUE.is("the first", x.message(0), Kit.message(1, 0, 1, 0));
        DUE.is("the last", x.message(1), Kit.message(1, 2, 1, 0));
        DUE.is("deliver the last", x.deliver(1), 1);
        DUE.is("the first again", x.message(0), Kit.message(1, 0, 1, 0));
        DUE.is("and three CONFIRMs", x.messages(), 4);
        DUE.is("lose the first", x.lose(0), true);
        Kit.deliverAll(x);
        DUE.is("client 0's was lost", x.status(0), 1);
        DUE.is("client 1's was lost", x.status(1), 1);
        DUE.is("client 2's was delivered", x.status(2), Kit.status(2, 10, 0));
        DUE.is("one question", x.master(1), Kit.master(0, 0, 10));
    }

    private static void whatIsSentComesBehind() {
        EpochStore x = new EpochStore();
        x.begin(0);
        x.begin(1);
        x.deliver(0);
        DUE.is("what was there", x.message(0), Kit.message(1, 1, 1, 0));
        for (int l = 0; l < 3; l++) {
            DUE.is("CONFIRM of log " + l, x.message(1 + l), Kit.message(2, l, 1, 0));
        }
        DUE.is("no more", x.message(4), -1);
    }
}
