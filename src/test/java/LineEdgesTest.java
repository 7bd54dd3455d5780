/**
 * The edges of the line: empty, one message, 23, 24 and one more; each sender when there is too
 * little room; messages for those that are down or not there.
 */
public final class LineEdgesTest {
    private static final int FULL = 24;
    private static final int[] NO_MESSAGE_OF_ANY_LINE = {-1, -2, FULL, FULL + 1, Integer.MIN_VALUE, Integer.MAX_VALUE};
    private static final Due DUE = new Due("LineEdgesTest");

    public static void main(String[] args) {
        anEmptyLine();
        aLineOfOne();
        aFullLine();
        oneLessThanFull();
        anAskInAFullLine();
        aCommitInAFullLine();
        confirmsInTooLittleRoom();
        pushesInTooLittleRoom();
        pushesAgainInTooLittleRoom();
        resultsInTooLittleRoom();
        oneAnswerAlwaysHasRoom();
        anyMessageOfAFullLineMayBeLost();
        anyMessageOfAFullLineMayBeDelivered();
        aLogThatIsDown();
        aLogThatWasDownWhenItWasSent();
        aMasterThatIsNotThere();
        aMasterThatIsThereBesideOneThatIsNot();
        clientsAreAlwaysThere();
        DUE.end();
    }

    private static void noMessage(String when, EpochStore x, int k) {
        int before = x.messages();
        DUE.is("message(" + k + ") of " + when, x.message(k), -1);
        DUE.is("deliver(" + k + ") of " + when, x.deliver(k), -1);
        DUE.is("lose(" + k + ") of " + when, x.lose(k), false);
        DUE.is("messages of " + when + " after that", x.messages(), before);
    }

    private static void anEmptyLine() {
        EpochStore x = new EpochStore();
        DUE.is("an empty line", x.messages(), 0);
        noMessage("an empty line", x, 0);
        noMessage("an empty line", x, 1);
        for (int k : NO_MESSAGE_OF_ANY_LINE) {
            noMessage("an empty line", x, k);
        }
        x.begin(0);
        x.lose(0);
        noMessage("a line that was emptied", x, 0);
    }

    private static void aLineOfOne() {
        EpochStore x = new EpochStore();
        x.begin(1);
        DUE.is("a line of one", x.messages(), 1);
        noMessage("a line of one", x, 1);
        for (int k : NO_MESSAGE_OF_ANY_LINE) {
            noMessage("a line of one", x, k);
        }
        DUE.is("its message", x.message(0), Kit.message(1, 1, 1, 0));
        DUE.is("its loss", x.lose(0), true);
        DUE.is("nothing is left", x.messages(), 0);
    }

    private static void aFullLine() {
        EpochStore x = Kit.withAFullLine();
        DUE.is("a full line", x.messages(), FULL);
        for (int k : NO_MESSAGE_OF_ANY_LINE) {
            noMessage("a full line", x, k);
        }
        for (int k = 0; k < FULL; k++) {
            DUE.is("message " + k + " of a full line", x.message(k), fullLine(k));
        }
    }

    private static void oneLessThanFull() {
        EpochStore x = Kit.withAFullLine();
        x.lose(0);
        noMessage("a line of 23", x, 23);
        DUE.is("begin", x.begin(1), true);
        DUE.is("there is room for the 24th", x.messages(), FULL);
        DUE.is("it comes behind the others", x.message(23), Kit.message(1, 1, 1, 0));
    }

    /** What Kit.withAFullLine has at place k. */
    private static int fullLine(int k) {
        return Kit.message(6, k % 3, 1, 11 + k / 3);
    }

    private static void isTheFullLineStill(String when, EpochStore x) {
        for (int k = 0; k < FULL; k++) {
            DUE.is("message " + k + ", " + when, x.message(k), fullLine(k));
        }
        DUE.is("messages, " + when, x.messages(), FULL);
    }

    private static void anAskInAFullLine() {
        EpochStore x = Kit.withAFullLine();
        DUE.is("begin in a full line", x.begin(1), true);
        DUE.is("it is ASKING", x.status(1), 1);
        isTheFullLineStill("when an ASK is lost", x);
        Kit.loseAll(x);
        DUE.is("no ASK comes up later", x.messages(), 0);
    }

    private static void aCommitInAFullLine() {
        EpochStore x = new EpochStore();
        Kit.open(x, 0);
        x.write(0, 0, 1);
        Kit.fillWithAsks(x, 2, FULL);
        DUE.is("commit in a full line", x.commit(0), true);
        DUE.is("it is PENDING", x.status(0), Kit.status(3, 10, 0));
        DUE.is("the COMMIT is lost", x.message(23), Kit.message(1, 2, 1, 0));
        Kit.loseAll(x);
        DUE.is("no COMMIT comes up later", x.messages(), 0);
        EpochStore y = new EpochStore();
        Kit.open(y, 0);
        y.write(0, 0, 1);
        Kit.fillWithAsks(y, 2, FULL - 1);
        DUE.is("commit with room for one", y.commit(0), true);
        DUE.is("the COMMIT is the 24th", y.message(23), Kit.message(5, 0, 1, 10));
    }

    /** Three were sent, one to each log, behind so many others: those that found room are there. */
    private static void threeBehind(EpochStore x, int others, int type, int version) {
        for (int l = 0; l < 3; l++) {
            int due = others + l < FULL ? Kit.message(type, l, 1, version) : -1;
            DUE.is("type " + type + " for log " + l + " behind " + others, x.message(others + l), due);
        }
        DUE.is("messages in all, behind " + others, x.messages(), Math.min(FULL, others + 3));
    }

    /** An ASK leaves a line of 21 to 24, so there is room for 4 to 1; three CONFIRMs are sent. */
    private static void confirmsInTooLittleRoom() {
        for (int count = 21; count <= FULL; count++) {
            EpochStore x = new EpochStore();
            Kit.fillWithAsks(x, 2, count);
            DUE.is("ASK in a line of " + count, x.deliver(0), 1);
            threeBehind(x, count - 1, 2, 0);
            DUE.is("it is a question all the same", x.master(1), Kit.master(1, 0, 10));
        }
    }

    private static void pushesInTooLittleRoom() {
        for (int count = 21; count <= FULL; count++) {
            EpochStore x = new EpochStore();
            Kit.open(x, 0);
            x.write(0, 0, 1);
            x.commit(0);
            Kit.fillWithAsks(x, 2, count);
            DUE.is("COMMIT in a line of " + count, x.deliver(0), 5);
            threeBehind(x, count - 1, 6, 11);
            DUE.is("it is on its way all the same", x.master(1), Kit.master(0, 1, 11));
            Kit.loseAll(x);
            DUE.is("to all three logs", x.push(1), 3);
        }
    }

    private static void pushesAgainInTooLittleRoom() {
        for (int count = 21; count <= FULL; count++) {
            EpochStore x = new EpochStore();
            Kit.open(x, 0);
            x.write(0, 0, 1);
            x.commit(0);
            x.deliver(0);
            Kit.loseAll(x);
            Kit.fillWithAsks(x, 2, count);
            DUE.is("push in a line of " + count, x.push(1), 3);
            threeBehind(x, count, 6, 11);
        }
    }

    /** One ACK commits two records: it leaves a line of 22 to 24, so there is room for 3 to 1. */
    private static void resultsInTooLittleRoom() {
        for (int count = 22; count <= FULL; count++) {
            EpochStore x = Kit.withTwoCommits();
            for (int i = 0; i < 8; i++) {
                x.deliver(0);
            }
            for (int i = 0; i < 5; i++) {
                x.deliver(1);
            }
            DUE.is("the last ACK", x.message(0), Kit.message(7, 0, 1, 11));
            Kit.fillWithAsks(x, 2, count);
            x.deliver(0);
            DUE.is("messages after it", x.messages(), Math.min(FULL, count + 1));
            DUE.is("the first RESULT", x.message(count - 1), Kit.message(8, 0, 1, 11));
            DUE.is("the second RESULT", x.message(count), count < FULL ? Kit.message(8, 1, 1, 12) : -1);
            DUE.is("both are committed", x.committed(1), 12);
            DUE.is("none is on its way", x.master(1), Kit.master(0, 0, 12));
        }
    }

    /** CONFIRMED, READ VERSION, ACK and RESULT take the place of the message that they answer. */
    private static void oneAnswerAlwaysHasRoom() {
        EpochStore x = Kit.withOneLog();
        x.begin(0);
        Kit.fillWithAsks(x, 2, FULL);
        int[] answers = {Kit.message(2, 0, 2, 0), Kit.message(3, 0, 2, 0), Kit.message(4, 0, 2, 20)};
        afterEachOther("before it is open", x, 0, answers);
        x.deliver(FULL - 1);
        x.write(0, 0, 1);
        x.commit(0);
        int[] results = {Kit.message(6, 0, 2, 21), Kit.message(7, 0, 2, 21), Kit.message(8, 0, 2, 21)};
        afterEachOther("when it is pending", x, FULL - 1, results);
        x.deliver(FULL - 1);
        DUE.is("it is committed", x.status(0), Kit.status(4, 20, 21));
    }

    /** Delivers message k of a full line, then each answer to it, which is the 24th each time. */
    private static void afterEachOther(String when, EpochStore x, int k, int[] answers) {
        int next = k;
        for (int answer : answers) {
            x.deliver(next);
            DUE.is("messages, " + when, x.messages(), FULL);
            DUE.is("the answer, " + when, x.message(FULL - 1), answer);
            next = FULL - 1;
        }
    }

    private static void anyMessageOfAFullLineMayBeLost() {
        for (int k = 0; k < FULL; k++) {
            EpochStore x = Kit.withAFullLine();
            DUE.is("lose(" + k + ")", x.lose(k), true);
            DUE.is("messages after it", x.messages(), FULL - 1);
            for (int i = 0; i < FULL - 1; i++) {
                DUE.is("message " + i + " without " + k, x.message(i), fullLine(i < k ? i : i + 1));
            }
            DUE.is("no log has got it", x.log(k % 3), Kit.server(0, 1, 10));
        }
    }

    private static void anyMessageOfAFullLineMayBeDelivered() {
        for (int k = 0; k < FULL; k++) {
            EpochStore x = Kit.withAFullLine();
            DUE.is("deliver(" + k + ")", x.deliver(k), 6);
            boolean first = k < 3;
            DUE.is("messages after it", x.messages(), first ? FULL : FULL - 1);
            for (int i = 0; i < FULL - 1; i++) {
                DUE.is("message " + i + " without " + k, x.message(i), fullLine(i < k ? i : i + 1));
            }
            DUE.is("its ACK", x.message(FULL - 1), first ? Kit.message(7, k, 1, 11) : -1);
        }
    }

    private static void aLogThatIsDown() {
        EpochStore x = new EpochStore();
        x.begin(0);
        x.deliver(0);
        x.stop(1, 0);
        DUE.is("a CONFIRM for a log that is down", x.deliver(0), 2);
        DUE.is("is lost", x.messages(), 2);
        DUE.is("a CONFIRM for a log that is up", x.deliver(0), 2);
        DUE.is("is answered", x.message(1), Kit.message(3, 1, 1, 0));
        x.start(1, 0);
        Kit.deliverAll(x);
        DUE.is("what was lost is lost for good", x.status(0), 1);
        EpochStore y = new EpochStore();
        Kit.open(y, 0);
        y.write(0, 0, 1);
        y.commit(0);
        y.deliver(0);
        y.stop(1, 0);
        DUE.is("a PUSH for a log that is down", y.deliver(0), 6);
        DUE.is("is lost", y.messages(), 2);
        DUE.is("the log has nothing of it", y.log(0), Kit.server(0, 1, 10) - Kit.UP);
        DUE.is("a PUSH for a log that is up", y.deliver(0), 6);
        DUE.is("is answered", y.message(1), Kit.message(7, 1, 1, 11));
    }

    /** Whether it is up counts when a message is delivered, not when it is sent. */
    private static void aLogThatWasDownWhenItWasSent() {
        EpochStore x = new EpochStore();
        x.begin(0);
        x.stop(1, 2);
        x.deliver(0);
        DUE.is("a CONFIRM is sent to it", x.message(2), Kit.message(2, 2, 1, 0));
        x.start(1, 2);
        Kit.deliverAll(x);
        DUE.is("it is answered after all", x.status(0), Kit.status(2, 10, 0));
        x.write(0, 0, 1);
        x.commit(0);
        x.stop(1, 2);
        x.deliver(0);
        DUE.is("a PUSH is sent to it", x.message(2), Kit.message(6, 2, 1, 11));
        x.start(1, 2);
        Kit.deliverAll(x);
        DUE.is("it is acknowledged after all", x.status(0), Kit.status(4, 10, 11));
    }

    private static void aMasterThatIsNotThere() {
        for (int deliveries = 0; deliveries < 8; deliveries++) {
            int[] types = {1, 2, 2, 2, 3, 3, 3, 4};
            lostUnlessAnswered(types[deliveries], stoppedAfter(false, deliveries));
        }
        for (int deliveries = 0; deliveries < 8; deliveries++) {
            int[] types = {5, 6, 6, 6, 7, 7, 7, 8};
            lostUnlessAnswered(types[deliveries], stoppedAfter(true, deliveries));
        }
    }

    /** Master 1 is stopped when so many messages of client 0's begin, or commit, have been delivered. */
    private static EpochStore stoppedAfter(boolean committing, int deliveries) {
        EpochStore x = new EpochStore();
        if (committing) {
            Kit.open(x, 0);
            x.write(0, 0, 1);
            x.commit(0);
        } else {
            x.begin(0);
        }
        for (int i = 0; i < deliveries; i++) {
            x.deliver(0);
        }
        x.stop(3, 1);
        return x;
    }

    private static void lostUnlessAnswered(int type, EpochStore x) {
        int before = x.messages();
        DUE.is("deliver, type " + type + " of a stopped master", x.deliver(0), type);
        boolean log = type == 2 || type == 6;
        DUE.is("messages after type " + type, x.messages(), log ? before : before - 1);
        Kit.deliverAll(x);
        int open = Kit.status(2, 10, 0);
        int due = type == 4 ? open : type == 8 ? Kit.status(4, 10, 11) : type < 4 ? 1 : Kit.status(3, 10, 0);
        DUE.is("the client after type " + type, x.status(0), due);
    }

    /** An ASK for master 1 and one for master 2 lie in the line when one of the masters is stopped. */
    private static void aMasterThatIsThereBesideOneThatIsNot() {
        for (int stopped = 1; stopped <= 2; stopped++) {
            EpochStore x = new EpochStore();
            x.begin(0);
            x.recover(0);
            x.find(1);
            x.begin(1);
            x.stop(3, stopped);
            DUE.is("an ASK for master 1", x.deliver(0), 1);
            DUE.is("when " + stopped + " is stopped", x.messages(), stopped == 1 ? 1 : 4);
            DUE.is("an ASK for master 2", x.deliver(0), 1);
            DUE.is("when " + stopped + " is stopped", x.messages(), 3);
        }
    }

    /** All coordinators, logs, storages and masters are down or gone: clients get what is theirs. */
    private static void clientsAreAlwaysThere() {
        EpochStore x = new EpochStore();
        x.begin(0);
        for (int i = 0; i < 7; i++) {
            x.deliver(0);
        }
        for (int i = 0; i < 3; i++) {
            x.stop(0, i);
            x.stop(1, i);
            x.stop(2, i);
        }
        x.stop(3, 1);
        DUE.is("READ VERSION", x.deliver(0), 4);
        DUE.is("is heard", x.status(0), Kit.status(2, 10, 0));
    }
}
