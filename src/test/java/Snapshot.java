import java.util.function.Consumer;
import java.util.function.Supplier;

/** All that an object tells of itself, to see whether a call has changed anything. */
final class Snapshot {
    private Snapshot() {
    }

    /** For small objects: an object is used for 512 calls at most. */
    static String of(FreshAllotter x) {
        StringBuilder all = new StringBuilder("fault " + x.fault() + ", now");
        for (int what = 0; what < 12; what++) {
            all.append(' ').append(x.now(what));
        }
        for (int customer = 0; customer < x.now(2); customer++) {
            all.append(", customer");
            for (int good = -1; good < x.now(1); good++) {
                all.append(' ').append(x.customer(customer, good));
            }
        }
        for (int order = 0; order < x.now(4); order++) {
            all.append(", order");
            for (int what = 0; what < 7; what++) {
                all.append(' ').append(x.order(order, what));
            }
        }
        for (int lot = 0; lot < x.now(3); lot++) {
            all.append(", lot");
            for (int what = 0; what < 5; what++) {
                all.append(' ').append(x.lot(lot, what));
            }
            for (int order = 0; order < x.now(4); order++) {
                all.append(' ').append(x.reserved(lot, order));
            }
        }
        return all.toString();
    }

    /** A call changes nothing: neither what is told, nor what undo() brings back, nor the bytes of the tape. */
    static void dueNoChange(String name, Supplier<FreshAllotter> maker, Consumer<FreshAllotter> call) {
        FreshAllotter x = maker.get();
        FreshAllotter twin = maker.get();
        call.accept(x);
        dueLike(name, x, twin);
        Checks.due("undo() after " + name, x.undo(), twin.undo());
        dueLike("undo() after " + name, x, twin);
        Checks.due("text() after " + name, x.text(), twin.text());
    }

    static void dueLike(String name, FreshAllotter x, FreshAllotter twin) {
        String got = of(x);
        String want = of(twin);
        if (!got.equals(want)) {
            System.out.println("after " + name + " it tells\n" + got + "\nnot\n" + want);
        }
        Checks.due("nothing is changed by " + name, got.equals(want), true);
    }
}
