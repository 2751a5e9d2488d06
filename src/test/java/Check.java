import java.util.function.LongSupplier;
import java.util.function.Supplier;
import java.util.function.ToLongFunction;

/** Counts the answers that are not the ones due, and prints them. */
final class Check {
    private final String name;
    private String promise = "";
    private int checked = 0;
    private int wrong = 0;

    Check(String name) {
        this.name = name;
    }

    void promise(String title) {
        promise = title;
    }

    void same(String call, Object due, Object got) {
        checked++;
        if (!due.equals(got)) {
            wrong++;
            System.out.println(promise + ": " + call + " answered " + got + ", due is " + due);
        }
    }

    void is(String call, long due, long got) {
        same(call, due, got);
    }

    void is(String call, boolean due, boolean got) {
        same(call, due, got);
    }

    void is(String call, double due, double got) {
        same(call, due, got);
    }

    /** The call throws exactly this kind of exception, and leaves the tutor as it was. */
    void refuses(String call, Class<? extends RuntimeException> kind, TypingTutor tutor,
            LongSupplier made) {
        String before = stateOf(tutor);
        String got;
        try {
            got = Long.toString(made.getAsLong());
        } catch (RuntimeException e) {
            got = e.getClass().getName();
        }
        same(call, kind.getName(), got);
        same("the state behind " + call, before, stateOf(tutor));
    }

    /**
     * The call, made of a tutor with this past, throws exactly this kind of exception, and whatever
     * is asked and typed afterwards is answered as by a tutor of which it was never made.
     */
    void refused(String call, Class<? extends RuntimeException> kind, Supplier<TypingTutor> past,
            ToLongFunction<TypingTutor> made) {
        TypingTutor tutor = past.get();
        String got;
        try {
            got = Long.toString(made.applyAsLong(tutor));
        } catch (RuntimeException e) {
            got = e.getClass().getName();
        }
        same(call, kind.getName(), got);
        same("what follows " + call, Aftermath.of(past.get()), Aftermath.of(tutor));
    }

    /** A few calls only: an object has 512 of them. */
    private static String stateOf(TypingTutor tutor) {
        String lesson = tutor.isOpen() ? tutor.wanted() + " " + tutor.done() : "closed";
        return tutor.digest() + " " + tutor.accuracy() + " " + tutor.isPlateau() + " " + lesson;
    }

    /** Ends the program, with exit code 1 if an answer was wrong. */
    void end() {
        System.out.println(name + ": " + checked + " checks, " + wrong + " wrong");
        System.exit(wrong == 0 ? 0 : 1);
    }
}
