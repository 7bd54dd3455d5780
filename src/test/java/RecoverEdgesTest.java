/**
 * The edges of a recovery and of the coordinators: two of them up, the log up and of the greatest
 * epoch, epoch 9, one log up and all, records of the source that are more and fewer than the others'.
 */
public final class RecoverEdgesTest {
    private static final Due DUE = new Due("RecoverEdgesTest");

    public static void main(String[] args) {
        coordinatorsAboutTwo();
        aLogThatIsDown();
        theLogsEpochAboutTheGreatest();
        theGreatestOfThoseThatAreUp();
        epochsAboutNine();
        oneLogUpOrMore();
        aLogThatIsDownStaysBehind();
        endGrowsByTen();
        sourcesWithMoreAndWithFewer();
        aMasterThatIsThereOrStopped();
        numbersOfLogs();
        numbersOfCoordinators();
        DUE.end();
    }

    private static void refused(String why, EpochStore x, int l) {
        String before = Kit.seen(x);
        DUE.is("recover(" + l + "), " + why, x.recover(l), -1);
        DUE.is("nothing has changed, " + why, Kit.seen(x).equals(before), true);
    }

    /** Each bit of the set is a coordinator that is up. */
    private static EpochStore withCoordinators(int set) {
        EpochStore x = new EpochStore();
        for (int i = 0; i < 3; i++) {
            if ((set & (1 << i)) == 0) {
                x.stop(0, i);
            }
        }
        return x;
    }

    private static void coordinatorsAboutTwo() {
        for (int set = 0; set < 8; set++) {
            EpochStore x = withCoordinators(set);
            boolean enough = Integer.bitCount(set) >= 2;
            DUE.is("find, up: " + set, x.find(0), enough ? 1 : -1);
            if (!enough) {
                refused("up: " + set, x, 0);
                continue;
            }
            DUE.is("recover, up: " + set, x.recover(0), 2);
            for (int i = 0; i < 3; i++) {
                boolean up = (set & (1 << i)) != 0;
                DUE.is("coordinator " + i + ", up: " + set, x.coordinator(i), up ? 18 : 1);
            }
        }
    }

    private static void aLogThatIsDown() {
        for (int l = 0; l < 3; l++) {
            EpochStore x = new EpochStore();
            x.stop(1, l);
            refused("it is down", x, l);
            x.start(1, l);
            DUE.is("it is up", x.recover(l), 2);
        }
        EpochStore y = new EpochStore();
        for (int l = 0; l < 3; l++) {
            y.stop(1, l);
        }
        for (int l = 0; l < 3; l++) {
            refused("all are down", y, l);
        }
    }

    /** Log 2 stays in epoch 1, as it is down in the recovery. */
    private static void theLogsEpochAboutTheGreatest() {
        EpochStore x = new EpochStore();
        x.stop(1, 2);
        x.recover(0);
        refused("it is down and of the epoch before", x, 2);
        x.start(1, 2);
        refused("it is of the epoch before", x, 2);
        x.stop(1, 0);
        x.stop(1, 1);
        refused("it is of the epoch before, and the only one that is up", x, 2);
        x.start(1, 1);
        DUE.is("a log of the epoch", x.recover(1), 3);
        DUE.is("log 2 is taken along", x.log(2), Kit.server(0, 3, 30));
        refused("it is down, and of the epoch before", x, 0);
        DUE.is("log 2 has caught up", x.recover(2), 4);
        x.start(1, 0);
        refused("it is two epochs behind", x, 0);
    }

    /** Coordinator 0 stays in epoch 1. Log 0 too: with coordinator 0 alone it would be of the greatest. */
    private static void theGreatestOfThoseThatAreUp() {
        for (int other = 1; other < 3; other++) {
            EpochStore x = new EpochStore();
            x.stop(0, 0);
            x.stop(1, 0);
            x.recover(1);
            x.start(0, 0);
            x.start(1, 0);
            x.stop(0, other);
            DUE.is("coordinator 0", x.coordinator(0), 17);
            DUE.is("find", x.find(0), 2);
            refused("it is of epoch 1, as one coordinator is", x, 0);
            DUE.is("from a log of the greatest", x.recover(1), 3);
            DUE.is("coordinator 0 has caught up", x.coordinator(0), 19);
            DUE.is("the one that was down has not", x.coordinator(other), 2);
        }
    }

    private static void epochsAboutNine() {
        EpochStore x = Kit.inEpoch(8);
        DUE.is("from 8", x.recover(0), 9);
        for (int l = 0; l < 3; l++) {
            DUE.is("log " + l, x.log(l), Kit.server(0, 9, 90));
            refused("from 9", x, l);
        }
        EpochStore y = Kit.inEpoch(9);
        for (int i = 0; i < 3; i++) {
            DUE.is("coordinator " + i, y.coordinator(i), 25);
        }
        DUE.is("find", y.find(1), 9);
        Kit.put(y, 1, 7, 7);
        DUE.is("epoch 9 goes on", y.status(1), Kit.status(4, 90, 91));
        DUE.is("a pull over eight epochs", y.pull(1, 2), 91);
        DUE.is("into epoch 9", y.storage(1), Kit.server(1, 9, 91));
    }

    /** Each bit of the set is a log that is up; the new master's CONFIRMs tell its logs. */
    private static void oneLogUpOrMore() {
        for (int set = 1; set < 8; set++) {
            EpochStore x = new EpochStore();
            int first = Integer.numberOfTrailingZeros(set);
            for (int l = 0; l < 3; l++) {
                if ((set & (1 << l)) == 0) {
                    x.stop(1, l);
                }
            }
            DUE.is("recover, up: " + set, x.recover(first), 2);
            x.find(0);
            x.begin(0);
            x.deliver(0);
            DUE.is("the master's logs, up: " + set, x.messages(), Integer.bitCount(set));
            DUE.is("the first", x.message(0), Kit.message(2, first, 2, 0));
            Kit.deliverAll(x);
            DUE.is("they are enough", x.status(0), Kit.status(2, 20, 0));
        }
    }

    private static void aLogThatIsDownStaysBehind() {
        EpochStore x = new EpochStore();
        Kit.put(x, 0, 0, 1);
        x.stop(1, 1);
        x.recover(0);
        DUE.is("what it has stays", x.log(1), Kit.server(1, 1, 11) - Kit.UP);
        x.start(1, 1);
        DUE.is("also when it comes up", x.log(1), Kit.server(1, 1, 11));
        DUE.is("the others are in epoch 2", x.log(2), Kit.server(1, 2, 21));
    }

    private static void endGrowsByTen() {
        for (int records = 0; records < 3; records++) {
            EpochStore x = new EpochStore();
            for (int i = 0; i < records; i++) {
                Kit.put(x, 0, 0, i + 1);
            }
            x.recover(0);
            int end = 20 + records;
            DUE.is("END", x.log(1), Kit.server(records, 2, end));
            DUE.is("LAST", x.master(2), Kit.master(0, 0, end));
            DUE.is("COMMITTED", x.committed(2), end);
            x.recover(2);
            DUE.is("END once more", x.log(0), Kit.server(records, 3, end + 10));
            DUE.is("COMMITTED once more", x.committed(3), end + 10);
            DUE.is("that of the epoch before stays", x.committed(2), end);
        }
    }

    /** Log 2 has three records; the others have so many of them. */
    private static void sourcesWithMoreAndWithFewer() {
        for (int inAll = 0; inAll <= 3; inAll++) {
            for (int source = 0; source < 3; source += 2) {
                EpochStore x = new EpochStore();
                for (int i = 0; i < 3; i++) {
                    if (i < inAll) {
                        Kit.put(x, 0, i, i + 1);
                    } else {
                        Kit.toLogTwoAlone(x, 0, i, i + 1);
                    }
                }
                x.recover(source);
                int records = source == 2 ? 3 : inAll;
                for (int l = 0; l < 3; l++) {
                    DUE.is("log " + l + " from " + source, x.log(l), Kit.server(records, 2, 20 + records));
                }
            }
        }
    }

    private static void aMasterThatIsThereOrStopped() {
        EpochStore x = new EpochStore();
        x.recover(0);
        DUE.is("the older master stays", x.master(1), Kit.master(0, 0, 10));
        x.stop(3, 1);
        x.recover(0);
        DUE.is("a stopped one does not come back", x.master(1), -1);
        DUE.is("the other one stays", x.master(2), Kit.master(0, 0, 20));
        x.stop(3, 3);
        DUE.is("no master is needed", x.recover(0), 4);
    }

    private static void numbersOfLogs() {
        for (int l : Kit.NO_LOGS) {
            refused("no such log", new EpochStore(), l);
        }
        for (int l = 0; l < 3; l++) {
            DUE.is("recover(" + l + ")", new EpochStore().recover(l), 2);
        }
    }

    private static void numbersOfCoordinators() {
        EpochStore x = new EpochStore();
        for (int i : new int[] {-1, 3, 4, Integer.MIN_VALUE, Integer.MAX_VALUE}) {
            DUE.is("coordinator(" + i + ")", x.coordinator(i), -1);
            DUE.is("stop(0, " + i + ")", x.stop(0, i), false);
            DUE.is("start(0, " + i + ")", x.start(0, i), false);
        }
        x.stop(0, 0);
        DUE.is("coordinator(0), down", x.coordinator(0), 1);
        DUE.is("coordinator(1), up", x.coordinator(1), 17);
        DUE.is("coordinator(2), up", x.coordinator(2), 17);
    }
}
