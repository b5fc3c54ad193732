import java.util.function.Consumer;
import java.util.function.Supplier;
import java.util.function.ToLongFunction;

/** Counts what one test program finds, and ends it with exit code 1 if anything was wrong. */
final class Check {
    private final String name;
    private int passed;
    private int failed;

    Check(String name) {
        this.name = name;
    }

    void same(String what, long got, long due) {
        count(got == due, what, got, due);
    }

    void same(String what, boolean got, boolean due) {
        count(got == due, what, got, due);
    }

    void same(String what, String got, String due) {
        count(got.equals(due), what, got, due);
    }

    void sameDouble(String what, double got, double due) {
        count(got == due, what, got, due);
    }

    void sameFloat(String what, float got, float due) {
        count(got == due, what, got, due);
    }

    void isTrue(String what, boolean got) {
        same(what, got, true);
    }

    /** The call must throw just this exception, none below it, and leave the store as its untouched twin is. */
    void refuses(String what, Class<? extends RuntimeException> due, Supplier<ForkHall> maker,
            Consumer<ForkHall> call) {
        ForkHall called = maker.get();
        ForkHall twin = maker.get();
        same(what, thrownBy(() -> call.accept(called)), due.getName());
        same(what + ", and changes nothing", State.of(called), State.of(twin));
    }

    void answers(String what, Supplier<ForkHall> maker, ToLongFunction<ForkHall> call, long due) {
        same(what, call.applyAsLong(maker.get()), due);
    }

    static String thrownBy(Runnable call) {
        try {
            call.run();
            return "nothing";
        } catch (RuntimeException e) {
            return e.getClass().getName();
        }
    }

    void end() {
        System.out.println(name + ": " + passed + " passed, " + failed + " failed");
        if (failed != 0) {
            System.exit(1);
        }
    }

    private void count(boolean right, String what, Object got, Object due) {
        if (right) {
            passed++;
        } else {
            failed++;
            System.out.println(name + ": " + what + " answered " + got + ", due is " + due);
        }
    }
}
