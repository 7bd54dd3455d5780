import java.util.Random;
import java.util.Set;
import java.util.TreeSet;

/** Long runs of calls drawn from a fixed seed, on the program and on the model. */
public final class ModelTest {
    private static final int RUNS = 6000;
    private static final int CALLS = 512;
    private static final Due DUE = new Due("ModelTest");
    /** What the runs must have come by for the comparison to say something. */
    private static final Set<String> TO_BE_SEEN = new TreeSet<>(Set.of(
        "a full line", "a master that is not there", "8 questions", "CONFIRM of another epoch",
        "CONFIRM when down", "a late READ VERSION", "8 on their way", "too old by START",
        "too old by LAST", "half a conflict", "a whole conflict", "PUSH of another epoch",
        "PUSH when down", "PUSH of what is there", "PUSH with a gap", "several committed by one ACK",
        "RESULT 4", "RESULT 5", "RESULT 6", "a late RESULT", "late by version", "late by epoch",
        "read nothing", "read a value", "read " + EpochStore.DOWN, "read " + EpochStore.LATE,
        "read " + EpochStore.OLD, "range " + EpochStore.DOWN, "range " + EpochStore.LATE,
        "range " + EpochStore.OLD, "COMMIT to another master", "records go", "back to the base",
        "over an epoch", "a version twice"));

    private final Random random;
    private final EpochStore x = new EpochStore();
    private final Model y = new Model();
    private final String name;
    /** What kind of run it is: one of the numbers below. */
    private final int mood;
    private static final int PLAIN = 0;
    /** ACKs are not delivered, so that records stay on their way. */
    private static final int UNACKNOWLEDGED = 1;
    /** Transactions are begun and given up, so that the line fills. */
    private static final int HASTY = 2;
    /** Client 2 opens first and rests, so that its read version gets old; one log, so that versions get far. */
    private static final int PATIENT = 3;
    /** Log 2 and a storage get ahead of the others in epoch 1, up to versions that epoch 2 gives again. */
    private static final int AHEAD = 4;
    private static final int MOODS = 5;
    /** How much of the run is trouble: losses, stops, recoveries. */
    private final int trouble;
    private final boolean inOrder;
    /** With how many calls left the patient client goes on. */
    private final int rest;
    private int left = CALLS;

    private ModelTest(int run) {
        random = new Random(run);
        name = "run " + run;
        mood = run % MOODS;
        trouble = mood == PLAIN ? random.nextInt(5) : random.nextInt(2);
        inOrder = mood != PLAIN || random.nextInt(3) != 0;
        rest = 100 + random.nextInt(300);
    }

    public static void main(String[] args) {
        Set<String> seen = new TreeSet<>();
        for (int run = 0; run < RUNS; run++) {
            ModelTest test = new ModelTest(run);
            test.go();
            seen.addAll(test.y.seen);
        }
        TO_BE_SEEN.removeAll(seen);
        DUE.is("not come by: " + TO_BE_SEEN, TO_BE_SEEN.size(), 0);
        DUE.end();
    }

    private void go() {
        if (mood == AHEAD) {
            logTwoGetsAhead();
        } else if (mood == PATIENT || mood == UNACKNOWLEDGED || random.nextInt(3) == 0) {
            fewerLogs();
        }
        if (mood == PATIENT) {
            openAndWrite(2, 4);
        }
        while (left > 0) {
            step(random.nextInt(100));
        }
    }

    /** Makes records cheap, so that versions get far within a run. */
    private void fewerLogs() {
        same("stop", x.stop(1, 1), y.stop(1, 1));
        same("stop", x.stop(1, 2), y.stop(1, 2));
        same("recover", x.recover(0), y.recover(0));
        for (int c = 0; c < 3; c++) {
            same("find", x.find(c), y.find(c));
        }
        same("pull", x.pull(0, 0), y.pull(0, 0));
        same("pull", x.pull(1, 0), y.pull(1, 0));
    }

    private void logTwoGetsAhead() {
        toLogTwoAlone(0);
        for (int i = random.nextInt(3); i < 11; i++) {
            openAndWrite(1, 9);
            same("read 1 0", x.read(1, 0), y.read(1, 0));
            same("commit 1", x.commit(1), y.commit(1));
            deliverSome(0, 2);
        }
        toLogTwoAlone(1);
        for (int i = 0; i < 2; i++) {
            same("pull 0 2", x.pull(0, 2), y.pull(0, 2));
        }
        same("stop 1 2", x.stop(1, 2), y.stop(1, 2));
        same("recover 0", x.recover(0), y.recover(0));
        same("find 1", x.find(1), y.find(1));
        openAndWrite(1, 9);
    }

    private void toLogTwoAlone(int k) {
        openAndWrite(0, 9);
        same("write 0 " + k, x.write(0, k, 6), y.write(0, k, 6));
        same("commit 0", x.commit(0), y.commit(0));
        deliverSome(0, 1);
        same("lose 0", x.lose(0), y.lose(0));
        same("lose 0", x.lose(0), y.lose(0));
        deliverSome(0, 1);
        same("lose 0", x.lose(0), y.lose(0));
        same("giveUp 0", x.giveUp(0), y.giveUp(0));
    }

    private void step(int dice) {
        if (dice < 50) {
            deliver();
        } else if (dice < 80) {
            client(random.nextInt(3));
        } else if (dice < 88) {
            int s = random.nextInt(2);
            int l = random.nextInt(3);
            same("pull " + s + " " + l, x.pull(s, l), y.pull(s, l));
        } else if (dice < 90) {
            wrong();
        } else if (dice < 94) {
            view();
        } else if (dice < 95) {
            int e = 1 + random.nextInt(9);
            same("push " + e, x.push(e), y.push(e));
        } else if (random.nextInt(4) < trouble) {
            trouble();
        }
    }

    private void deliver() {
        if (mood == HASTY && random.nextInt(8) != 0) {
            int c = random.nextInt(3);
            same("begin " + c, x.begin(c), y.begin(c));
            same("giveUp " + c, x.giveUp(c), y.giveUp(c));
            return;
        }
        if ((mood == PATIENT || mood == UNACKNOWLEDGED) && random.nextInt(2) == 0) {
            wholeTransaction(random.nextInt(2));
        }
        int k = inOrder || y.messages() == 0 ? 0 : random.nextInt(y.messages());
        deliverSome(k, random.nextInt(inOrder ? 8 : 3));
    }

    /** To be open takes four deliveries with one log, eight with three. */
    private void openAndWrite(int c, int deliveries) {
        int k = 1 + random.nextInt(7);
        same("begin " + c, x.begin(c), y.begin(c));
        deliverSome(0, deliveries);
        same("write " + c + " " + k, x.write(c, k, 5), y.write(c, k, 5));
    }

    private void wholeTransaction(int c) {
        openAndWrite(c, 4);
        same("commit " + c, x.commit(c), y.commit(c));
        deliverSome(0, 4);
    }

    private void deliverSome(int k, int times) {
        for (int i = 0; i < times; i++) {
            if (mood == UNACKNOWLEDGED && y.message(k) % 16 == 7 && random.nextInt(20) != 0) {
                same("lose " + k, x.lose(k), y.lose(k));
            } else {
                same("deliver " + k, x.deliver(k), y.deliver(k));
            }
        }
    }

    private void client(int c) {
        if (mood == PATIENT && c == 2 && left > rest) {
            return;
        }
        if (mood == UNACKNOWLEDGED && y.status(c) % 16 == 3) {
            same("giveUp " + c, x.giveUp(c), y.giveUp(c));
        }
        int k = random.nextInt(8);
        switch (random.nextInt(8)) {
            case 0:
            case 1:
                same("begin " + c, x.begin(c), y.begin(c));
                break;
            case 2:
                same("read " + c + " " + k, x.read(c, k), y.read(c, k));
                break;
            case 3:
                int to = Math.min(7, k + random.nextInt(4));
                same("range " + c + " " + k + " " + to, x.range(c, k, to), y.range(c, k, to));
                break;
            case 4:
            case 5:
                int v = random.nextInt(5) - 1;
                same("write " + c + " " + k + " " + v, x.write(c, k, v), y.write(c, k, v));
                break;
            case 6:
                same("commit " + c, x.commit(c), y.commit(c));
                break;
            default:
                if (random.nextInt(3) == 0) {
                    same("giveUp " + c, x.giveUp(c), y.giveUp(c));
                }
                break;
        }
    }

    private void trouble() {
        int i = random.nextInt(3);
        int role = random.nextInt(3);
        switch (random.nextInt(12)) {
            case 0:
                same("stop " + role + " " + i, x.stop(role, i), y.stop(role, i));
                break;
            case 1:
            case 2:
            case 3:
                same("start " + role + " " + i, x.start(role, i), y.start(role, i));
                break;
            case 4:
                same("recover " + i, x.recover(i), y.recover(i));
                break;
            case 5:
            case 6:
                same("find " + i, x.find(i), y.find(i));
                break;
            case 7:
                int e = 1 + random.nextInt(9);
                same("stop 3 " + e, x.stop(3, e), y.stop(3, e));
                break;
            default:
                int k = random.nextInt(1 + y.messages());
                same("lose " + k, x.lose(k), y.lose(k));
                break;
        }
    }

    private void view() {
        int i = random.nextInt(3);
        int e = 1 + random.nextInt(9);
        int k = random.nextInt(24);
        switch (random.nextInt(8)) {
            case 0:
                same("status " + i, x.status(i), y.status(i));
                break;
            case 1:
                same("messages", x.messages(), y.messages());
                break;
            case 2:
                same("message " + k, x.message(k), y.message(k));
                break;
            case 3:
                same("log " + i, x.log(i), y.log(i));
                break;
            case 4:
                same("storage " + i, x.storage(i), y.storage(i));
                break;
            case 5:
                same("master " + e, x.master(e), y.master(e));
                break;
            case 6:
                same("committed " + e, x.committed(e), y.committed(e));
                break;
            default:
                same("coordinator " + i, x.coordinator(i), y.coordinator(i));
                break;
        }
    }

    /** Any call with any small numbers, most of them out of bounds somewhere. */
    private void wrong() {
        int a = random.nextInt(14) - 2;
        int b = random.nextInt(14) - 2;
        switch (random.nextInt(9)) {
            case 0:
                same("range 0 " + a + " " + b, x.range(0, a, b), y.range(0, a, b));
                break;
            case 1:
                same("read " + a + " " + b, x.read(a, b), y.read(a, b));
                break;
            case 2:
                same("write " + a + " " + b, x.write(a, b, 1), y.write(a, b, 1));
                break;
            case 3:
                same("pull " + a + " " + b, x.pull(a, b), y.pull(a, b));
                break;
            case 4:
                same("start " + a + " " + b, x.start(a, b), y.start(a, b));
                break;
            case 5:
                same("message " + (a + b), x.message(a + b), y.message(a + b));
                break;
            case 6:
                same("push " + a, x.push(a), y.push(a));
                break;
            case 7:
                same("find " + a, x.find(a), y.find(a));
                break;
            default:
                same("master " + a, x.master(a), y.master(a));
                break;
        }
    }

    private void same(String call, long got, long want) {
        if (left > 0) {
            left--;
            DUE.is(name + ", " + (CALLS - left) + ": " + call, got, want);
        }
    }

    private void same(String call, boolean got, boolean want) {
        same(call, got ? 1 : 0, want ? 1 : 0);
    }
}
