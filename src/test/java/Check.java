import java.util.List;
import java.util.function.Consumer;
import java.util.function.Function;
import java.util.function.Supplier;
import java.util.function.ToLongFunction;

/** Counts what one test program finds, and ends it with exit code 1 if anything was wrong. */
final class Check {
    static final String INDEX = IndexOutOfBoundsException.class.getName();
    static final String ARGUMENT = IllegalArgumentException.class.getName();
    static final String NO_ELEMENT = java.util.NoSuchElementException.class.getName();
    static final String STATE = IllegalStateException.class.getName();
    static final String UNSUPPORTED = UnsupportedOperationException.class.getName();
    static final String ARITHMETIC = ArithmeticException.class.getName();

    private final String name;
    private int passed;
    private int failed;
    private String sentence = "";
    private int countedBefore;

    Check(String name) {
        this.name = name;
    }

    /** What is checked from here on belongs to this sentence of the document, or to this part of it. */
    void sentence(String text) {
        endSentence();
        sentence = text;
    }

    void same(String what, long got, long due) {
        count(got == due, what, got, due);
    }

    void same(String what, boolean got, boolean due) {
        count(got == due, what, got, due);
    }

    void same(String what, String got, String due) {
        count(got.equals(due), what, got, due);
    }

    void sameDouble(String what, double got, double due) {
        count(got == due, what, got, due);
    }

    void sameFloat(String what, float got, float due) {
        count(got == due, what, got, due);
    }

    void isTrue(String what, boolean got) {
        same(what, got, true);
    }

    /** The call must throw just this exception, none below it, and leave the store as its untouched twin is. */
    void refuses(String what, Class<? extends RuntimeException> due, Supplier<ForkHall> maker,
            Consumer<ForkHall> call) {
        ForkHall called = maker.get();
        same(what, thrownBy(() -> call.accept(called)), due.getName());
        changesNothing(what, maker, call);
    }

    void changesNothing(String what, Supplier<ForkHall> maker, Consumer<ForkHall> call) {
        List<String> after = State.whole(() -> {
            ForkHall called = maker.get();
            thrownBy(() -> call.accept(called));
            return called;
        });
        List<String> due = State.whole(maker);
        same(what + ": parts of the state", after.size(), due.size());
        for (int part = 0; part < Math.min(after.size(), due.size()); part++) {
            same(what + ", and changes nothing, part " + part, after.get(part), due.get(part));
        }
    }

    void answers(String what, Supplier<ForkHall> maker, ToLongFunction<ForkHall> call, long due) {
        same(what, call.applyAsLong(maker.get()), due);
    }

    /** The answer, or the name of the exception, of one call of a fresh store. */
    void tells(String what, Supplier<ForkHall> maker, Function<ForkHall, Object> call, Object due) {
        ForkHall hall = maker.get();
        same(what, toldBy(() -> call.apply(hall)), String.valueOf(due));
    }

    static String thrownBy(Runnable call) {
        try {
            call.run();
            return "nothing";
        } catch (RuntimeException e) {
            return e.getClass().getName();
        }
    }

    /** The answer as a text, or the name of the exception. */
    static String toldBy(Supplier<Object> call) {
        try {
            return String.valueOf(call.get());
        } catch (RuntimeException e) {
            return e.getClass().getName();
        }
    }

    void end() {
        endSentence();
        System.out.println(name + ": " + passed + " passed, " + failed + " failed");
        if (failed != 0) {
            System.exit(1);
        }
    }

    /** A sentence that nothing was checked of would be a test that tests nothing. */
    private void endSentence() {
        if (!sentence.isEmpty() && passed + failed == countedBefore) {
            isTrue("something is checked", false);
        }
        countedBefore = passed + failed;
        sentence = "";
    }

    private void count(boolean right, String what, Object got, Object due) {
        if (right) {
            passed++;
        } else {
            failed++;
            System.out.println(name + ": " + what + " answered " + got + ", due is " + due
                    + (sentence.isEmpty() ? "" : " [" + sentence + "]"));
        }
    }
}
