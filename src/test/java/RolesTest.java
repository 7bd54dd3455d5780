/** Promises 14, 15 and 23: stop, start, coordinator. */
public final class RolesTest {
    private static final int[] COUNTS = {3, 3, 2};
    private static final Due DUE = new Due("RolesTest");

    public static void main(String[] args) {
        downAndUp();
        whatTheyHaveStays();
        masters();
        noSuchRole();
        coordinators();
        DUE.end();
    }

    private static void downAndUp() {
        EpochStore x = new EpochStore();
        String before = Kit.seen(x);
        for (int role = 0; role < 3; role++) {
            for (int i = 0; i < COUNTS[role]; i++) {
                String name = role + ", " + i;
                DUE.is("start when up: " + name, x.start(role, i), false);
                DUE.is("nothing has changed", Kit.seen(x).equals(before), true);
                DUE.is("stop: " + name, x.stop(role, i), true);
                String down = Kit.seen(x);
                DUE.is("something has changed", down.equals(before), false);
                DUE.is("stop when down: " + name, x.stop(role, i), false);
                DUE.is("nothing has changed", Kit.seen(x).equals(down), true);
                DUE.is("start: " + name, x.start(role, i), true);
                DUE.is("as before", Kit.seen(x).equals(before), true);
                x = new EpochStore();
            }
        }
    }

    private static void whatTheyHaveStays() {
        EpochStore x = new EpochStore();
        Kit.put(x, 0, 1, 1);
        x.pull(0, 0);
        x.recover(0);
        for (int role = 0; role < 3; role++) {
            for (int i = 0; i < COUNTS[role]; i++) {
                x.stop(role, i);
            }
        }
        DUE.is("a coordinator that is down", x.coordinator(2), 2);
        DUE.is("a log that is down", x.log(2), Kit.server(1, 2, 21) - Kit.UP);
        DUE.is("a storage that is down", x.storage(0), Kit.server(1, 1, 11) - Kit.UP);
        x.start(0, 2);
        x.start(1, 2);
        x.start(2, 0);
        DUE.is("a coordinator that is up", x.coordinator(2), 18);
        DUE.is("a log that is up", x.log(2), Kit.server(1, 2, 21));
        DUE.is("a storage that is up", x.storage(0), Kit.server(1, 1, 11));
    }

    private static void masters() {
        EpochStore x = new EpochStore();
        DUE.is("start of a master that is there", x.start(3, 1), false);
        DUE.is("stop of master 2 before its epoch", x.stop(3, 2), false);
        DUE.is("stop of master 1", x.stop(3, 1), true);
        DUE.is("it is not there", x.master(1), -1);
        DUE.is("stop of master 1 again", x.stop(3, 1), false);
        DUE.is("a master does not come up", x.start(3, 1), false);
        x.recover(0);
        DUE.is("master 2 is there", x.master(2), Kit.master(0, 0, 20));
        DUE.is("master 1 is not", x.master(1), -1);
        DUE.is("stop of master 2", x.stop(3, 2), true);
        for (int e : new int[] {0, -1, 3, 9, 10, Integer.MIN_VALUE, Integer.MAX_VALUE}) {
            DUE.is("stop of master " + e, x.stop(3, e), false);
        }
        for (int l = 0; l < 7; l++) {
            x.recover(0);
        }
        DUE.is("stop of master 9", x.stop(3, 9), true);
    }

    private static void noSuchRole() {
        EpochStore x = new EpochStore();
        String before = Kit.seen(x);
        for (int role : new int[] {-1, 4, 5, Integer.MIN_VALUE, Integer.MAX_VALUE}) {
            for (int i = 0; i < 3; i++) {
                DUE.is("stop(" + role + ", " + i + ")", x.stop(role, i), false);
                DUE.is("start(" + role + ", " + i + ")", x.start(role, i), false);
            }
        }
        for (int role = 0; role < 3; role++) {
            for (int i : new int[] {-1, COUNTS[role], COUNTS[role] + 1, Integer.MIN_VALUE, Integer.MAX_VALUE}) {
                DUE.is("stop(" + role + ", " + i + ")", x.stop(role, i), false);
                DUE.is("start(" + role + ", " + i + ")", x.start(role, i), false);
            }
        }
        DUE.is("nothing has changed", Kit.seen(x).equals(before), true);
    }

    private static void coordinators() {
        EpochStore x = new EpochStore();
        x.stop(0, 1);
        x.recover(0);
        DUE.is("coordinator 0", x.coordinator(0), 18);
        DUE.is("coordinator 1, down in the recovery", x.coordinator(1), 1);
        DUE.is("coordinator 2", x.coordinator(2), 18);
        x.start(0, 1);
        DUE.is("coordinator 1, up", x.coordinator(1), 17);
        for (int i : new int[] {-1, 3, Integer.MIN_VALUE, Integer.MAX_VALUE}) {
            DUE.is("coordinator " + i, x.coordinator(i), -1);
        }
    }
}
