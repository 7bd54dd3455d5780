import java.util.Random;

/** No call throws, for any arguments in any state, after the 512th call too. */
public final class NeverThrowsTest {
    private static final int[] EDGES = {
        Integer.MIN_VALUE, Integer.MIN_VALUE + 1, -17, -1, 8, 9, 10, 23, 24, 25, 99, 100, 101,
        Integer.MAX_VALUE - 1, Integer.MAX_VALUE};
    private static final Due DUE = new Due("NeverThrowsTest");

    public static void main(String[] args) {
        for (int run = 0; run < 200; run++) {
            DUE.is("any calls, run " + run, anyCalls(new Random(run)), true);
        }
        DUE.is("more records than a log takes", manyRecords(), true);
        DUE.end();
    }

    private static boolean anyCalls(Random random) {
        EpochStore x = new EpochStore();
        try {
            for (int i = 0; i < 5000; i++) {
                call(x, random.nextInt(30), any(random), any(random), any(random));
            }
            return true;
        } catch (RuntimeException e) {
            System.out.println(e);
            return false;
        }
    }

    private static int any(Random random) {
        return random.nextInt(8) == 0 ? EDGES[random.nextInt(EDGES.length)] : random.nextInt(10) / 3;
    }

    private static void call(EpochStore x, int which, int a, int b, int c) {
        switch (which) {
            case 0 -> x.find(a);
            case 1, 2 -> x.begin(a);
            case 3 -> x.read(a, b);
            case 4 -> x.range(a, b, c);
            case 5 -> x.write(a, b, c);
            case 6 -> x.commit(a);
            case 7 -> x.giveUp(a);
            case 8 -> x.status(a);
            case 9 -> x.messages();
            case 10 -> x.message(a);
            case 11 -> x.lose(a);
            case 12 -> x.stop(a, b);
            case 13, 14 -> x.start(a, b);
            case 15 -> x.pull(a, b);
            case 16 -> x.push(a);
            case 17 -> x.recover(a);
            case 18 -> x.log(a);
            case 19 -> x.storage(a);
            case 20 -> x.master(a);
            case 21 -> x.committed(a);
            case 22 -> x.coordinator(a);
            default -> x.deliver(a);
        }
    }

    private static boolean manyRecords() {
        EpochStore x = Kit.withOneLog();
        try {
            for (int i = 0; i < 120; i++) {
                Kit.put(x, 0, i % 8, i);
                x.giveUp(0);
                x.pull(0, 0);
                x.pull(1, 0);
            }
            x.recover(0);
            x.find(0);
            Kit.put(x, 0, 0, 1);
            return x.log(0) % 128 <= 100;
        } catch (RuntimeException e) {
            System.out.println(e);
            return false;
        }
    }
}
