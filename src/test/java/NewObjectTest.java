/** Promise 1. */
public final class NewObjectTest {
    private static final Due DUE = new Due("NewObjectTest");

    public static void main(String[] args) {
        servers(new EpochStore());
        masters(new EpochStore());
        clientsAndLine(new EpochStore());
        objectsAreApart();
        DUE.end();
    }

    private static void servers(EpochStore x) {
        for (int i = 0; i < 3; i++) {
            DUE.is("coordinator " + i, x.coordinator(i), 17);
            DUE.is("log " + i, x.log(i), Kit.server(0, 1, 10));
        }
        DUE.is("storage 0", x.storage(0), Kit.server(0, 1, 10));
        DUE.is("storage 1", x.storage(1), Kit.server(0, 1, 10));
    }

    private static void masters(EpochStore x) {
        DUE.is("master 1", x.master(1), Kit.master(0, 0, 10));
        DUE.is("committed 1", x.committed(1), 10);
        for (int e = 2; e <= 9; e++) {
            DUE.is("master " + e, x.master(e), -1);
        }
        x.begin(0);
        x.deliver(0);
        DUE.is("master 1 asks all three logs", x.messages(), 3);
        Kit.deliverAll(x);
        DUE.is("reading a new store", x.range(0, 0, 7), 0);
    }

    private static void clientsAndLine(EpochStore x) {
        for (int c = 0; c < 3; c++) {
            DUE.is("status " + c, x.status(c), 0);
            x.begin(c);
            DUE.is("a client knows epoch 1", x.message(c), Kit.message(1, c, 1, 0));
        }
        DUE.is("no messages at first", new EpochStore().messages(), 0);
        DUE.is("no message 0 at first", new EpochStore().message(0), -1);
    }

    private static void objectsAreApart() {
        EpochStore x = new EpochStore();
        EpochStore y = new EpochStore();
        Kit.put(x, 0, 0, 5);
        x.recover(0);
        x.stop(0, 0);
        DUE.is("another object is untouched", Kit.seen(y).equals(Kit.seen(new EpochStore())), true);
    }
}
