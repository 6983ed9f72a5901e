import java.util.ArrayList;
import java.util.List;
import java.util.Objects;

/** Counts the answers that are not due, and ends a test. */
final class Check {
    /** A call of the class that may throw. */
    interface Call {
        void make();
    }

    // As many as one test uses at a time; the elder ones are not looked at any more.
    private static final int MOST_WATCHED = 3;
    private static final List<Refereehall> watched = new ArrayList<>();
    private static int wrong = 0;
    private static int made = 0;

    private Check() {
    }

    /** A land that no call may change that throws. */
    static Refereehall watch(Refereehall land) {
        if (watched.size() >= MOST_WATCHED) {
            watched.remove(0);
        }
        watched.add(land);
        return land;
    }

    static void due(String what, Object got, Object want) {
        made++;
        if (!Objects.equals(got, want)) {
            wrong++;
            System.out.println(what + " answered " + got + ", due is " + want);
        }
    }

    static void fails(String what, Class<? extends RuntimeException> want, Call call) {
        List<String> before = snapshots();
        throwsWith(what, want, call);
        due(what + " changes nothing", snapshots().equals(before), true);
    }

    private static List<String> snapshots() {
        List<String> all = new ArrayList<>();
        for (Refereehall land : watched) {
            all.add(Snapshot.of(land));
        }
        return all;
    }

    /** The class of the exception is to be this very one: what the machine throws is often one below it. */
    private static void throwsWith(String what, Class<? extends RuntimeException> want, Call call) {
        made++;
        try {
            call.make();
        } catch (RuntimeException e) {
            if (e.getClass() != want) {
                wrong++;
                System.out.println(what + " threw " + e.getClass().getName() + ", due is " + want.getName());
            }
            return;
        }
        wrong++;
        System.out.println(what + " threw nothing, due is " + want.getName());
    }

    static void outOfBounds(String what, Call call) {
        fails(what, IndexOutOfBoundsException.class, call);
    }

    static void badArgument(String what, Call call) {
        fails(what, IllegalArgumentException.class, call);
    }

    static void badState(String what, Call call) {
        fails(what, IllegalStateException.class, call);
    }

    static void unsupported(String what, Call call) {
        fails(what, UnsupportedOperationException.class, call);
    }

    static void noElement(String what, Call call) {
        fails(what, java.util.NoSuchElementException.class, call);
    }

    static void arithmetic(String what, Call call) {
        fails(what, ArithmeticException.class, call);
    }

    static void end() {
        System.out.println(made + " checks, " + wrong + " wrong");
        if (wrong != 0) {
            System.exit(1);
        }
    }
}
