import java.util.ArrayList;
import java.util.Arrays;
import java.util.LinkedHashMap;
import java.util.List;
import java.util.Map;
import java.util.Set;
import java.util.TreeSet;
import java.util.function.Supplier;
import java.util.function.ToLongFunction;

/**
 * A call that is refused changes nothing, nor does one that shows something, nor a read that can't
 * be done. In many states every such call is made, and the store is compared with one on which
 * none was made: by what can be seen, and by what long endings of the run answer.
 */
public final class RefusedTest {
    private static final int[] NUMBERS = {
        Integer.MIN_VALUE, -1, 0, 1, 2, 3, 4, 7, 8, 9, 10, 23, 24, Integer.MAX_VALUE};
    /** So few calls that set-up, calls and ending stay below 512. */
    private static final int CHUNK = 40;
    private static final Set<String> TO_BE_REFUSED = new TreeSet<>(Arrays.asList(
        "find", "begin", "read", "range", "write", "commit", "giveUp", "message", "deliver", "lose", "stop", "start",
        "pull", "push", "recover", "log", "storage", "master", "committed", "coordinator", "status", "messages"));
    private static final Due DUE = new Due("RefusedTest");

    /** A call with its arguments; a boolean answers 1 or 0. */
    private record Call(String method, String text, ToLongFunction<EpochStore> made) {
        /** Views do nothing in any case; no value in the scenes is -1, and none is as great as DOWN. */
        boolean changesNothing(long answer) {
            return switch (method) {
                case "status", "messages", "message", "log", "storage", "master", "committed", "coordinator" -> true;
                case "begin", "write", "commit", "giveUp", "lose", "stop", "start" -> answer == 0;
                default -> answer == EpochStore.NONE || answer >= EpochStore.DOWN;
            };
        }
    }

    public static void main(String[] args) {
        List<Call> calls = calls();
        for (Map.Entry<String, Supplier<EpochStore>> scene : scenes().entrySet()) {
            List<Call> idle = idleCalls(calls, scene.getValue());
            for (int from = 0; from < idle.size(); from += CHUNK) {
                List<Call> chunk = idle.subList(from, Math.min(idle.size(), from + CHUNK));
                compare(scene.getKey(), scene.getValue(), chunk);
            }
        }
        DUE.is("never refused: " + TO_BE_REFUSED, TO_BE_REFUSED.size(), 0);
        DUE.end();
    }

    private static List<Call> idleCalls(List<Call> calls, Supplier<EpochStore> scene) {
        List<Call> idle = new ArrayList<>();
        for (Call call : calls) {
            if (call.changesNothing(call.made.applyAsLong(scene.get()))) {
                idle.add(call);
                TO_BE_REFUSED.remove(call.method);
            }
        }
        return idle;
    }

    private static EpochStore after(Supplier<EpochStore> scene, List<Call> chunk) {
        EpochStore x = scene.get();
        for (Call call : chunk) {
            call.made.applyAsLong(x);
        }
        return x;
    }

    private static void compare(String scene, Supplier<EpochStore> made, List<Call> chunk) {
        String name = scene + ", from " + chunk.get(0).text + " to " + chunk.get(chunk.size() - 1).text;
        DUE.is("what is seen, " + name, Kit.seen(after(made, chunk)).equals(Kit.seen(made.get())), true);
        DUE.is("what is read, " + name, readings(after(made, chunk)).equals(readings(made.get())), true);
        for (int k = 0; k < 8; k++) {
            String got = ending(after(made, chunk), k);
            DUE.is("the ending with key " + k + ", " + name, got.equals(ending(made.get(), k)), true);
        }
    }

    private static String readings(EpochStore x) {
        StringBuilder text = new StringBuilder();
        for (int c = 0; c < 3; c++) {
            for (int k = 0; k < 8; k++) {
                text.append(x.read(c, k)).append(' ');
            }
        }
        return text.toString();
    }

    /**
     * What no view tells comes to light: client 2 overtakes the others at key k, which tells what they
     * noted and wrote; then all is pushed, pulled and read; then there is a recovery.
     */
    private static String ending(EpochStore x, int k) {
        StringBuilder text = new StringBuilder();
        x.giveUp(2);
        x.begin(2);
        Kit.deliverAll(x);
        x.write(2, k, 9);
        x.commit(2);
        Kit.deliverAll(x);
        for (int c = 0; c < 2; c++) {
            x.write(c, 7 - k, 5 + c);
            x.commit(c);
            Kit.deliverAll(x);
            text.append(x.status(c)).append(' ');
        }
        for (int e = 1; e <= 3; e++) {
            text.append(x.push(e)).append(' ').append(x.master(e)).append(' ');
            Kit.deliverAll(x);
        }
        for (int i = 0; i < 12; i++) {
            text.append(x.pull(i % 2, i % 3)).append(' ');
        }
        for (int c = 0; c < 3; c++) {
            x.giveUp(c);
            x.begin(c);
            text.append(x.message(0)).append(' ').append(x.find(c)).append(' ');
            Kit.deliverAll(x);
            text.append(x.range(c, 0, 3)).append(' ').append(x.range(c, 4, 7)).append(' ');
        }
        for (int key = 0; key < 8; key++) {
            text.append(x.read(0, key)).append(' ');
        }
        for (int l = 0; l < 3; l++) {
            text.append(x.recover(l)).append(' ').append(x.log(l)).append(' ');
        }
        return text.toString();
    }

    private static Map<String, Supplier<EpochStore>> scenes() {
        Map<String, Supplier<EpochStore>> scenes = new LinkedHashMap<>();
        for (int state = 0; state <= 8; state++) {
            int s = state;
            scenes.put("state " + state, () -> Kit.inState(s));
        }
        scenes.put("a busy store", RefusedTest::busy);
        scenes.put("a full line", Kit::withAFullLine);
        scenes.put("eight questions", RefusedTest::eightQuestions);
        scenes.put("one log", Kit::withOneLog);
        scenes.put("a storage ahead", RefusedTest::storageAhead);
        scenes.put("logs of three epochs", Kit::withThreeEpochs);
        scenes.put("epoch 9", () -> Kit.inEpoch(9));
        for (int role = 0; role < 3; role++) {
            int r = role;
            scenes.put("role " + role + " is down", () -> down(r));
        }
        scenes.put("a newer epoch is known", RefusedTest::newerEpochKnown);
        scenes.put("the master is stopped", RefusedTest::stopped);
        scenes.put("a storage that is late", RefusedTest::late);
        return scenes;
    }

    /** Client 0 is open with keys noted and written, client 1 is PENDING, and the line has messages. */
    private static EpochStore busy() {
        EpochStore x = new EpochStore();
        Kit.put(x, 2, 4, 44);
        x.pull(1, 0);
        Kit.open(x, 0);
        x.range(0, 4, 5);
        x.write(0, 1, 11);
        x.write(0, 6, 66);
        Kit.open(x, 1);
        x.write(1, 2, 22);
        x.commit(1);
        x.deliver(0);
        x.deliver(1);
        return x;
    }

    private static EpochStore eightQuestions() {
        EpochStore x = new EpochStore();
        Kit.open(x, 1);
        for (int i = 0; i < 8; i++) {
            x.begin(0);
            x.deliver(0);
            Kit.loseAll(x);
            x.giveUp(0);
        }
        x.begin(0);
        return x;
    }

    private static EpochStore storageAhead() {
        EpochStore x = Kit.withAStorageAhead(13);
        Kit.open(x, 0);
        return x;
    }

    /** All of a role are down, while client 0 is open. */
    private static EpochStore down(int role) {
        EpochStore x = busy();
        for (int i = 0; i < 3; i++) {
            x.stop(role, i);
        }
        return x;
    }

    /** The transaction is of epoch 1, as are the storages. */
    private static EpochStore newerEpochKnown() {
        EpochStore x = busy();
        x.recover(0);
        x.find(0);
        return x;
    }

    private static EpochStore stopped() {
        EpochStore x = busy();
        x.stop(3, 1);
        return x;
    }

    private static EpochStore late() {
        EpochStore x = new EpochStore();
        Kit.put(x, 1, 0, 1);
        Kit.open(x, 0);
        return x;
    }

    private static List<Call> calls() {
        List<Call> calls = new ArrayList<>();
        calls.add(new Call("messages", "messages()", EpochStore::messages));
        for (int a : NUMBERS) {
            addOneNumber(calls, a);
            for (int b : NUMBERS) {
                addTwoNumbers(calls, a, b);
                for (int c = -1; c <= 3; c++) {
                    int client = c;
                    add(calls, "range", x -> x.range(client, a, b), c, a, b);
                }
            }
        }
        return calls;
    }

    private static void add(List<Call> calls, String method, ToLongFunction<EpochStore> made, int... arguments) {
        calls.add(new Call(method, method + Arrays.toString(arguments), made));
    }

    private static void addOneNumber(List<Call> calls, int a) {
        add(calls, "find", x -> x.find(a), a);
        add(calls, "begin", x -> x.begin(a) ? 1 : 0, a);
        add(calls, "commit", x -> x.commit(a) ? 1 : 0, a);
        add(calls, "giveUp", x -> x.giveUp(a) ? 1 : 0, a);
        add(calls, "status", x -> x.status(a), a);
        add(calls, "message", x -> x.message(a), a);
        add(calls, "deliver", x -> x.deliver(a), a);
        add(calls, "lose", x -> x.lose(a) ? 1 : 0, a);
        add(calls, "push", x -> x.push(a), a);
        add(calls, "recover", x -> x.recover(a), a);
        add(calls, "log", x -> x.log(a), a);
        add(calls, "storage", x -> x.storage(a), a);
        add(calls, "master", x -> x.master(a), a);
        add(calls, "committed", x -> x.committed(a), a);
        add(calls, "coordinator", x -> x.coordinator(a), a);
    }

    private static void addTwoNumbers(List<Call> calls, int a, int b) {
        add(calls, "read", x -> x.read(a, b), a, b);
        add(calls, "write", x -> x.write(a, b, 3) ? 1 : 0, a, b);
        add(calls, "stop", x -> x.stop(a, b) ? 1 : 0, a, b);
        add(calls, "start", x -> x.start(a, b) ? 1 : 0, a, b);
        add(calls, "pull", x -> x.pull(a, b), a, b);
    }
}
