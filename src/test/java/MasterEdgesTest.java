/**
 * The edges of a master: eight questions, eight records on their way, read versions about START
 * and LAST less 12, latest writes about the read version, acknowledgements that do not count, and
 * the numbers of masters.
 */
public final class MasterEdgesTest {
    private static final Due DUE = new Due("MasterEdgesTest");

    public static void main(String[] args) {
        eightQuestionsAndNoNinth();
        aDoneQuestionMakesRoom();
        eightQuestionsHoldNoCommitBack();
        eightRecordsAndNoNinth();
        aCommittedRecordMakesRoom();
        nothingIsDoneForOneTooOld();
        nothingIsDoneForOneInConflict();
        eightRecordsHoldNoQuestionBack();
        eachMasterHasItsOwnEight();
        readVersionsAboutTheStart();
        readVersionsAboutLastLessTwelve();
        lastLessTwelveCountsConflictsToo();
        latestWritesAboutTheReadVersion();
        latestWritesAtTheStart();
        aConflictOfOneResolverOrOfBoth();
        theOtherResolverLetsPass();
        twoOfThreeConfirmations();
        twoOfThreeAcknowledgements();
        anAcknowledgementTwice();
        anAcknowledgementOfNoRecordOnItsWay();
        pushWithNothingOnItsWay();
        numbersOfMasters();
        DUE.end();
    }

    /** A question more, and for good, as its CONFIRMs are lost. */
    private static void leaveAQuestion(EpochStore x) {
        x.begin(0);
        x.giveUp(0);
        x.deliver(0);
        Kit.loseAll(x);
    }

    private static EpochStore withEightQuestions() {
        EpochStore x = new EpochStore();
        Kit.open(x, 1);
        for (int i = 0; i < 8; i++) {
            leaveAQuestion(x);
        }
        return x;
    }

    private static void eightQuestionsAndNoNinth() {
        EpochStore x = new EpochStore();
        DUE.is("no question", x.master(1), Kit.master(0, 0, 10));
        for (int i = 1; i <= 8; i++) {
            x.begin(0);
            x.giveUp(0);
            x.deliver(0);
            DUE.is("question " + i, x.master(1), Kit.master(i, 0, 10));
            DUE.is("its CONFIRMs", x.messages(), 3);
            Kit.loseAll(x);
        }
        x.begin(0);
        DUE.is("a ninth ASK", x.deliver(0), 1);
        DUE.is("is no question", x.master(1), Kit.master(8, 0, 10));
        DUE.is("nothing is sent for it", x.messages(), 0);
        DUE.is("its client waits", x.status(0), 1);
    }

    private static void aDoneQuestionMakesRoom() {
        EpochStore x = Kit.withOneLog();
        Kit.fillWithAsks(x, 0, 8);
        for (int i = 0; i < 8; i++) {
            x.deliver(0);
        }
        DUE.is("eight questions", x.master(2), Kit.master(8, 0, 20));
        x.deliver(3);
        x.deliver(7);
        DUE.is("the fourth is done", x.master(2), Kit.master(7, 0, 20));
        x.begin(0);
        x.deliver(8);
        DUE.is("there is room for one more", x.master(2), Kit.master(8, 0, 20));
        x.giveUp(0);
        x.begin(0);
        x.deliver(9);
        DUE.is("but not for two", x.master(2), Kit.master(8, 0, 20));
        Kit.deliverAll(x);
        DUE.is("all are done", x.master(2), Kit.master(0, 0, 20));
        DUE.is("the one that found no room has no answer", x.status(0), 1);
    }

    private static void eightQuestionsHoldNoCommitBack() {
        EpochStore x = withEightQuestions();
        x.write(1, 0, 1);
        x.commit(1);
        Kit.deliverAll(x);
        DUE.is("committed beside eight questions", x.status(1), Kit.status(4, 10, 11));
        DUE.is("the eight are there", x.master(1), Kit.master(8, 0, 11));
    }

    /** Client 1 is open at the START, 20, and has read key 0; so many records of key 0 are on their way. */
    private static EpochStore withOnWay(int count) {
        EpochStore x = Kit.withOneLog();
        x.find(1);
        Kit.open(x, 1);
        x.read(1, 0);
        x.write(1, 5, 5);
        for (int i = 0; i < count; i++) {
            Kit.putOnWay(x, 0, i + 1);
        }
        return x;
    }

    private static void eightRecordsAndNoNinth() {
        for (int before = 0; before < 8; before++) {
            EpochStore x = withOnWay(before);
            Kit.open(x, 0);
            x.write(0, 1, 1);
            x.commit(0);
            x.deliver(0);
            DUE.is("one more than " + before, x.master(2), Kit.master(0, before + 1, 21 + before));
            DUE.is("its PUSH", x.message(0), Kit.message(6, 0, 2, 21 + before));
        }
        EpochStore y = withOnWay(8);
        Kit.open(y, 0);
        y.write(0, 1, 1);
        y.commit(0);
        DUE.is("a ninth COMMIT", y.deliver(0), 5);
        DUE.is("does nothing", y.master(2), Kit.master(0, 8, 28));
        DUE.is("and sends nothing", y.messages(), 0);
        DUE.is("its client waits", y.status(0), Kit.status(3, 20, 0));
        y.push(2);
        Kit.deliverAll(y);
        DUE.is("the eight are committed later", y.committed(2), 28);
        DUE.is("and it is forgotten", y.status(0), Kit.status(3, 20, 0));
    }

    private static void aCommittedRecordMakesRoom() {
        EpochStore x = withOnWay(8);
        DUE.is("eight are pushed again", x.push(2), 8);
        x.deliver(0);
        x.deliver(7);
        DUE.is("the oldest is committed", x.master(2), Kit.master(0, 7, 28));
        DUE.is("by its version", x.committed(2), 21);
        Kit.loseAll(x);
        Kit.putOnWay(x, 0, 9);
        DUE.is("there is room for one more", x.master(2), Kit.master(0, 8, 29));
        Kit.putOnWay(x, 0, 10);
        DUE.is("but not for two", x.master(2), Kit.master(0, 8, 29));
    }

    /** Client 1 is open at 10, below the START of master 2, to which its COMMIT goes. */
    private static EpochStore tooOldWithOnWay(int count) {
        EpochStore x = new EpochStore();
        Kit.open(x, 1);
        x.write(1, 5, 5);
        x.stop(1, 1);
        x.stop(1, 2);
        x.recover(0);
        x.find(0);
        x.find(1);
        for (int i = 0; i < count; i++) {
            Kit.putOnWay(x, 0, i + 1);
        }
        x.commit(1);
        x.deliver(0);
        return x;
    }

    private static void nothingIsDoneForOneTooOld() {
        EpochStore x = tooOldWithOnWay(7);
        DUE.is("beside seven it is too old", x.message(0), Kit.message(8, 1, 2, 0));
        EpochStore y = tooOldWithOnWay(8);
        DUE.is("beside eight it has no RESULT", y.messages(), 0);
        DUE.is("nothing is done", y.master(2), Kit.master(0, 8, 28));
    }

    private static void nothingIsDoneForOneInConflict() {
        EpochStore x = withOnWay(7);
        x.commit(1);
        x.deliver(0);
        DUE.is("beside seven it is in conflict", x.message(0), Kit.message(8, 1, 2, 0));
        DUE.is("and LAST has grown", x.master(2), Kit.master(0, 7, 28));
        EpochStore y = withOnWay(8);
        y.commit(1);
        y.deliver(0);
        DUE.is("beside eight it has no RESULT", y.messages(), 0);
        DUE.is("and LAST stays", y.master(2), Kit.master(0, 8, 28));
    }

    private static void eightRecordsHoldNoQuestionBack() {
        EpochStore x = withOnWay(8);
        Kit.open(x, 0);
        DUE.is("open beside eight records", x.status(0), Kit.status(2, 20, 0));
    }

    private static void eachMasterHasItsOwnEight() {
        EpochStore x = withEightQuestions();
        x.recover(0);
        x.find(0);
        leaveAQuestion(x);
        DUE.is("master 2 has a question", x.master(2), Kit.master(1, 0, 20));
        DUE.is("master 1 has eight", x.master(1), Kit.master(8, 0, 10));
        EpochStore y = Kit.withAFullLine();
        Kit.loseAll(y);
        y.recover(0);
        y.find(0);
        Kit.putOnWay(y, 0, 1);
        DUE.is("master 2 has a record on its way", y.master(2), Kit.master(0, 1, 21));
        DUE.is("master 1 has eight", y.master(1), Kit.master(0, 8, 18));
    }

    /**
     * The nearest read version below a START is 10 less: what was committed before is in the log
     * that the recovery came from, and END grew by 10.
     */
    private static void readVersionsAboutTheStart() {
        EpochStore x = new EpochStore();
        Kit.put(x, 1, 0, 1);
        Kit.open(x, 0);
        x.recover(0);
        x.find(0);
        x.find(1);
        x.find(2);
        Kit.open(x, 1);
        x.write(0, 1, 1);
        x.write(1, 1, 1);
        x.commit(0);
        Kit.deliverAll(x);
        DUE.is("10 below the START, 21, and above LAST less 12", x.status(0), Kit.status(6, 11, 0));
        DUE.is("LAST stays", x.master(2), Kit.master(0, 0, 21));
        x.commit(1);
        Kit.deliverAll(x);
        DUE.is("at the START", x.status(1), Kit.status(4, 21, 22));
        Kit.put(x, 2, 1, 2);
        DUE.is("above the START", x.status(2), Kit.status(4, 22, 23));
    }

    private static EpochStore withWritesAndLast(int last) {
        EpochStore x = Kit.withLast(last);
        x.write(1, 1, 1);
        x.write(2, 2, 2);
        return x;
    }

    private static void readVersionsAboutLastLessTwelve() {
        EpochStore x = withWritesAndLast(32);
        x.commit(1);
        Kit.deliverAll(x);
        DUE.is("20 when LAST is 32", x.status(1), Kit.status(4, 20, 33));
        EpochStore y = withWritesAndLast(33);
        y.commit(1);
        y.deliver(0);
        DUE.is("20 when LAST is 33: RESULT 6", y.message(0), Kit.message(8, 1, 2, 0));
        y.deliver(0);
        DUE.is("it is too old", y.status(1), Kit.status(6, 20, 0));
        DUE.is("LAST stays", y.master(2), Kit.master(0, 0, 33));
        y.commit(2);
        Kit.deliverAll(y);
        DUE.is("21 when LAST is 33", y.status(2), Kit.status(4, 21, 34));
    }

    /** Record 11 is on its way for good, so COMMITTED and PUSHED stay while conflicts bring LAST on. */
    private static void lastLessTwelveCountsConflictsToo() {
        for (int last = 22; last <= 23; last++) {
            EpochStore x = new EpochStore();
            Kit.open(x, 2);
            x.write(2, 6, 6);
            Kit.putOnWay(x, 0, 1);
            for (int v = 12; v <= last; v++) {
                Kit.conflict(x, 1, 0);
                DUE.is("a conflict", x.status(1), Kit.status(5, 10, 0));
            }
            DUE.is("LAST", x.master(1), Kit.master(0, 1, last));
            x.commit(2);
            x.deliver(0);
            int due = last == 22 ? Kit.message(6, 0, 1, 23) : Kit.message(8, 2, 1, 0);
            DUE.is("10 when LAST is " + last, x.message(0), due);
            DUE.is("LAST then", x.master(1), Kit.master(0, last == 22 ? 2 : 1, 23));
        }
    }

    /** Key k is written as version 11; client 0 has read it at 10, client 2 at 11. */
    private static void latestWritesAboutTheReadVersion() {
        for (int k = 0; k < 8; k++) {
            EpochStore x = new EpochStore();
            Kit.open(x, 0);
            x.read(0, k);
            Kit.put(x, 1, k, 1);
            x.pull(k / 4, 0);
            Kit.open(x, 2);
            x.read(2, k);
            x.write(0, k, 2);
            x.write(2, k, 3);
            x.commit(0);
            Kit.deliverAll(x);
            DUE.is("key " + k + ", above the read version", x.status(0), Kit.status(5, 10, 0));
            x.commit(2);
            Kit.deliverAll(x);
            DUE.is("key " + k + ", at the read version", x.status(2), Kit.status(4, 11, 13));
        }
    }

    private static void latestWritesAtTheStart() {
        EpochStore x = Kit.withOneLog();
        Kit.open(x, 0);
        DUE.is("all keys are noted at the START", x.range(0, 0, 7), 0);
        x.write(0, 0, 1);
        x.commit(0);
        Kit.deliverAll(x);
        DUE.is("no conflict with it", x.status(0), Kit.status(4, 20, 21));
    }

    /** Clients 0 and 1 are open at 10; 1 writes the keys 3 and 4, then 0 commits, having noted some. */
    private static int resultWithNoted(int... noted) {
        EpochStore x = new EpochStore();
        x.begin(0);
        x.begin(1);
        Kit.deliverAll(x);
        for (int k : noted) {
            x.read(0, k);
        }
        x.write(1, 3, 1);
        x.write(1, 4, 1);
        x.commit(1);
        Kit.deliverAll(x);
        x.write(0, 0, 1);
        x.commit(0);
        x.deliver(0);
        DUE.is("LAST grows by one", x.master(1) / 256, 12);
        if (x.message(0) % 16 == 8) {
            DUE.is("there is one RESULT", x.messages(), 1);
        }
        Kit.deliverAll(x);
        return x.status(0) % 16;
    }

    private static void aConflictOfOneResolverOrOfBoth() {
        DUE.is("nothing noted", resultWithNoted(), 4);
        DUE.is("noted what was not written", resultWithNoted(0, 1, 2, 5, 6, 7), 4);
        DUE.is("a conflict of the first", resultWithNoted(3), 5);
        DUE.is("a conflict of the first, none of the second", resultWithNoted(3, 5), 5);
        DUE.is("a conflict of the second", resultWithNoted(4), 5);
        DUE.is("a conflict of the second, none of the first", resultWithNoted(2, 4), 5);
        DUE.is("a conflict of both", resultWithNoted(3, 4), 5);
    }

    /** A conflict at the keys 0 .. 3 does not hold the other resolver back, and the other way round. */
    private static void theOtherResolverLetsPass() {
        DUE.is("the resolver without a conflict let its write pass", afterHalfAConflict(0, 4), 5);
        DUE.is("and so does the first one", afterHalfAConflict(7, 3), 5);
        DUE.is("the resolver with a conflict let none pass", afterHalfAConflict(0, 1), 4);
        DUE.is("and so does the second one", afterHalfAConflict(7, 6), 4);
        DUE.is("key 4 is not the first one's: noted", afterHalfAConflict(4, 3), 5);
        DUE.is("key 4 is not the first one's: written", afterHalfAConflict(5, 4), 4);
        DUE.is("key 3 is not the second one's: noted", afterHalfAConflict(3, 4), 5);
        DUE.is("key 3 is not the second one's: written", afterHalfAConflict(1, 3), 4);
    }

    /** A conflict at one key, with a write of another: the state of one that noted the other before. */
    private static int afterHalfAConflict(int conflict, int other) {
        EpochStore x = new EpochStore();
        x.begin(0);
        x.begin(1);
        x.begin(2);
        Kit.deliverAll(x);
        x.read(1, conflict);
        x.read(2, other);
        x.write(0, conflict, 1);
        x.write(1, other, 1);
        x.write(2, 2, 1);
        x.commit(0);
        Kit.deliverAll(x);
        x.commit(1);
        Kit.deliverAll(x);
        DUE.is("a conflict", x.status(1), Kit.status(5, 10, 0));
        x.commit(2);
        Kit.deliverAll(x);
        return x.status(2) % 16;
    }

    /** Whichever log's answer is missing: the question, or the record, waits for it. */
    private static void twoOfThreeConfirmations() {
        for (int missing = 0; missing < 3; missing++) {
            EpochStore x = new EpochStore();
            x.begin(0);
            for (int i = 0; i < 4; i++) {
                x.deliver(0);
            }
            DUE.is("the missing one", x.message(missing), Kit.message(3, missing, 1, 0));
            x.deliver(missing == 0 ? 1 : 0);
            x.deliver(missing == 2 ? 0 : 1);
            DUE.is("two confirmations", x.master(1), Kit.master(1, 0, 10));
            DUE.is("and no READ VERSION", x.messages(), 1);
            x.deliver(0);
            DUE.is("three confirmations", x.master(1), Kit.master(0, 0, 10));
            DUE.is("and READ VERSION", x.message(0), Kit.message(4, 0, 1, 10));
        }
    }

    private static EpochStore withThreeAcks() {
        EpochStore x = new EpochStore();
        Kit.open(x, 0);
        x.write(0, 0, 1);
        x.commit(0);
        for (int i = 0; i < 4; i++) {
            x.deliver(0);
        }
        return x;
    }

    private static void twoOfThreeAcknowledgements() {
        for (int missing = 0; missing < 3; missing++) {
            EpochStore x = withThreeAcks();
            DUE.is("the missing one", x.message(missing), Kit.message(7, missing, 1, 11));
            x.deliver(missing == 0 ? 1 : 0);
            x.deliver(missing == 2 ? 0 : 1);
            DUE.is("two acknowledgements", x.master(1), Kit.master(0, 1, 11));
            DUE.is("and nothing committed", x.committed(1), 10);
            DUE.is("and no RESULT", x.messages(), 1);
            DUE.is("one PUSH again", x.push(1), 1);
            DUE.is("to the log that is missing", x.message(1), Kit.message(6, missing, 1, 11));
            x.deliver(0);
            DUE.is("three acknowledgements", x.master(1), Kit.master(0, 0, 11));
            DUE.is("and it is committed", x.committed(1), 11);
            DUE.is("and RESULT", x.message(1), Kit.message(8, 0, 1, 11));
        }
    }

    /** Log 0 acknowledges three times: that is one log. */
    private static void anAcknowledgementTwice() {
        EpochStore x = new EpochStore();
        Kit.putOnWay(x, 0, 1);
        for (int i = 0; i < 3; i++) {
            x.push(1);
            x.deliver(i);
            x.lose(i);
            x.lose(i);
        }
        for (int i = 0; i < 3; i++) {
            DUE.is("an ACK of log 0", x.message(0), Kit.message(7, 0, 1, 11));
            x.deliver(0);
            DUE.is("it is on its way still", x.master(1), Kit.master(0, 1, 11));
        }
        DUE.is("two logs are missing", x.push(1), 2);
    }

    /** Client 1's record is on its way, while the three messages at the front lie where they are. */
    private static void putOnWayBehindThree(EpochStore x) {
        x.begin(1);
        for (int i = 0; i < 8; i++) {
            x.deliver(3);
        }
        x.write(1, 1, 1);
        x.commit(1);
        x.deliver(3);
        for (int i = 0; i < 3; i++) {
            x.lose(3);
        }
    }

    private static void anAcknowledgementOfNoRecordOnItsWay() {
        EpochStore x = withThreeAcks();
        DUE.is("three PUSHes again", x.push(1), 3);
        Kit.deliverAll(x);
        DUE.is("six ACKs, of which three came too late", x.status(0), Kit.status(4, 10, 11));
        DUE.is("committed once", x.committed(1), 11);
        EpochStore y = withThreeAcks();
        y.push(1);
        for (int i = 0; i < 7; i++) {
            y.deliver(0);
        }
        putOnWayBehindThree(y);
        for (int l = 0; l < 3; l++) {
            DUE.is("an ACK of version 11", y.message(0), Kit.message(7, l, 1, 11));
            y.deliver(0);
            DUE.is("is none of version 12", y.master(1), Kit.master(0, 1, 12));
        }
        DUE.is("nothing is sent for it", y.messages(), 0);
        DUE.is("all logs are missing", y.push(1), 3);
    }

    private static void pushWithNothingOnItsWay() {
        EpochStore x = new EpochStore();
        DUE.is("of a new master", x.push(1), 0);
        Kit.put(x, 0, 0, 1);
        DUE.is("when all is committed", x.push(1), 0);
        DUE.is("nothing is sent", x.messages(), 0);
        Kit.putOnWay(x, 0, 2);
        DUE.is("with one record", x.push(1), 3);
    }

    private static void noMaster(EpochStore x, int e) {
        String before = Kit.seen(x);
        DUE.is("push(" + e + ")", x.push(e), -1);
        DUE.is("master(" + e + ")", x.master(e), -1);
        DUE.is("committed(" + e + ")", x.committed(e), -1);
        DUE.is("stop(3, " + e + ")", x.stop(3, e), false);
        DUE.is("nothing has changed", Kit.seen(x).equals(before), true);
    }

    private static void isMaster(EpochStore x, int e) {
        DUE.is("push(" + e + ")", x.push(e), 0);
        DUE.is("master(" + e + ")", x.master(e), Kit.master(0, 0, 10 * e));
        DUE.is("committed(" + e + ")", x.committed(e), 10 * e);
    }

    private static void numbersOfMasters() {
        for (int epoch = 1; epoch <= 9; epoch++) {
            for (int e : new int[] {Integer.MIN_VALUE, -1, 0, epoch + 1, 10, Integer.MAX_VALUE}) {
                noMaster(Kit.inEpoch(epoch), e);
            }
            EpochStore x = Kit.inEpoch(epoch);
            isMaster(x, 1);
            isMaster(x, epoch);
            DUE.is("stop(3, " + epoch + ")", x.stop(3, epoch), true);
            noMaster(x, epoch);
        }
    }
}
