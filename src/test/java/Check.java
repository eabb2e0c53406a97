import java.util.function.Consumer;
import java.util.function.Supplier;

/** Counts answers that are not the ones that are due, prints each, and ends the test by them. */
final class Check {
    /** A call whose exception is looked at. */
    interface Call {
        void run();
    }

    private int looked = 0;
    private int wrong = 0;

    void same(String call, long due, long got) {
        looked++;
        if (got != due) {
            wrong++;
            System.out.println(call + " answered " + got + ", due is " + due);
        }
    }

    void same(String call, boolean due, boolean got) {
        same(call, due ? 1 : 0, got ? 1 : 0);
    }

    void same(String call, String due, String got) {
        looked++;
        if (!due.equals(got)) {
            wrong++;
            System.out.println(call + " answered " + got + ", due is " + due);
        }
    }

    /** The very class is due, as a class below it is another exception. */
    void refuses(String call, Class<? extends RuntimeException> due, Call made) {
        String got = "nothing";
        try {
            made.run();
        } catch (RuntimeException e) {
            got = e.getClass().getName();
        }
        same(call + " throws", due.getName(), got);
    }

    /** The call throws what is due, and what the new desk tells stays as it was. */
    void refuses(String call, Class<? extends RuntimeException> due, Supplier<DarkDesk> made, Consumer<DarkDesk> asked) {
        DarkDesk desk = made.get();
        String before = Snapshot.of(desk);
        refuses(call, due, () -> asked.accept(desk));
        same(call + " changes nothing", before, Snapshot.of(desk));
    }

    void end(String test) {
        System.out.println(test + ": " + looked + " answers looked at, " + wrong + " wrong");
        if (wrong != 0 || looked == 0) {
            System.exit(1);
        }
    }
}
