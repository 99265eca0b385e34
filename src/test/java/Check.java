import java.util.function.Consumer;
import java.util.function.ObjIntConsumer;
import java.util.function.Supplier;

/** Counts the checks of one test program, prints the wrong ones, and ends the program. */
final class Check {
    private static final long MOST_MILLISECONDS = 5 * 60 * 1000;

    private final String title;
    private Document document;
    private volatile String about = "";
    private int checks;
    private int wrong;

    Check(String title) {
        this.title = title;
        Thread watch = new Thread(this::endAfterMinutes);
        watch.setDaemon(true);
        watch.start();
    }

    /** A call that does not end is a wrong one as well. */
    private void endAfterMinutes() {
        try {
            Thread.sleep(MOST_MILLISECONDS);
        } catch (InterruptedException e) {
            return;
        }
        System.out.println(title + ": " + about + "a call does not end");
        Runtime.getRuntime().halt(1);
    }

    /** The checks behind this are about the sentence of the document that begins with these words. */
    void sentence(String section, String beginning) {
        if (document == null) {
            document = new Document();
        }
        about = section + ", \"" + beginning + "\": ";
        isTrue("that the document has this sentence", document.test(section, beginning));
    }

    /** Every sentence of the section must have been named by sentence(). */
    void leavesNoSentenceOf(String section) {
        about = section + ": ";
        for (String words : document.untested(section)) {
            isTrue("a test of \"" + words + "\"", false);
        }
    }

    void same(String call, long got, long want) {
        checks++;
        if (got != want) {
            tell(call + " answered " + got + ", due is " + want);
        }
    }

    void sameDouble(String call, double got, double want) {
        checks++;
        if (Double.compare(got, want) != 0) {
            tell(call + " answered " + got + ", due is " + want);
        }
    }

    void isTrue(String what, boolean holds) {
        checks++;
        if (!holds) {
            tell(what + " does not hold");
        }
    }

    /** The call must throw just this exception, and must leave the object as it was. */
    void refused(String call, SynodicWheels x, Class<? extends RuntimeException> want, Runnable run) {
        checks++;
        long before = x.digest();
        Class<?> got = null;
        try {
            run.run();
        } catch (RuntimeException e) {
            got = e.getClass();
        }
        if (got != want) {
            tell(call + " threw " + (got == null ? "nothing" : got.getName()) + ", due is " + want.getName());
        }
        if (x.digest() != before) {
            tell(call + " changed the state although it threw");
        }
    }

    void argument(String call, SynodicWheels x, Runnable run) {
        refused(call, x, IllegalArgumentException.class, run);
    }

    void state(String call, SynodicWheels x, Runnable run) {
        refused(call, x, IllegalStateException.class, run);
    }

    void index(String call, SynodicWheels x, Runnable run) {
        refused(call, x, IndexOutOfBoundsException.class, run);
    }

    /**
     * The call takes the lowest and the highest number, and refuses those next to them and those farthest from them;
     * each time on a new house.
     */
    void range(String what, int lowest, int highest, Class<? extends RuntimeException> otherwise,
            Supplier<SynodicWheels> house, ObjIntConsumer<SynodicWheels> call) {
        for (int inside : new int[] {lowest, highest}) {
            taken(what + " " + inside, () -> call.accept(house.get(), inside));
        }
        int before = wrong;
        for (int outside : new int[] {lowest - 1, highest + 1, Integer.MIN_VALUE, Integer.MAX_VALUE}) {
            SynodicWheels x = house.get();
            // A farther one that is taken too could keep the test for minutes.
            if (wrong == before) {
                refused(what + " " + outside, x, otherwise, () -> call.accept(x, outside));
            }
        }
    }

    /** Undo must bring back all that was before the call. */
    void undone(String call, Supplier<SynodicWheels> house, Consumer<SynodicWheels> calls) {
        SynodicWheels x = house.get();
        String before = Houses.told(x);
        calls.accept(x);
        taken("undo() of " + call, x::undo);
        String behind = Houses.told(x);
        isTrue(behind + " behind the undo of " + call + ", as " + before + " before, ", behind.equals(before));
    }

    /** The call must not throw. */
    void taken(String call, Runnable run) {
        checks++;
        try {
            run.run();
        } catch (RuntimeException e) {
            tell(call + " threw " + e.getClass().getName());
        }
    }

    /** All the values of value(), in one row. */
    void values(String when, SynodicWheels x, int... want) {
        for (int what = 0; what < want.length; what++) {
            same(when + ": value(" + what + ")", x.value(what), want[what]);
        }
    }

    /** All that wheel() tells of a wheel, in one row. */
    void wheel(String when, SynodicWheels x, int wheel, int... want) {
        for (int what = 0; what < want.length; what++) {
            same(when + ": wheel(" + wheel + ", " + what + ")", x.wheel(wheel, what), want[what]);
        }
    }

    /** What market() tells of the days from today on, in one row. */
    void markets(String when, SynodicWheels x, int... want) {
        for (int after = 0; after < want.length; after++) {
            same(when + ": market(" + after + ")", x.market(after), want[after]);
        }
    }

    void end() {
        System.out.println(title + ": " + checks + " checks, " + wrong + " wrong");
        if (wrong != 0) {
            System.exit(1);
        }
    }

    private void tell(String fault) {
        wrong++;
        System.out.println(title + ": " + about + fault);
    }
}
