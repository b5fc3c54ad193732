import java.lang.reflect.InvocationTargetException;
import java.lang.reflect.Method;
import java.util.HashMap;
import java.util.Map;
import java.util.NoSuchElementException;

/** Runs of calls, the same each time, whose every answer is compared with the model's. */
public final class ModelRunsTest {
    private static final int RUNS = 1500;
    private static final int CALLS = 512;
    private static final int[] WRONG = {-1, 8, 5, 60, 10000, Integer.MIN_VALUE, Integer.MAX_VALUE};
    private static final int[] WEIGHTS = {1, 10, 100, 1000};
    private static final String[] WORK = {"write", "write", "write", "erase", "move", "commit", "commit", "commit"};
    private static final String[] STEPS = {"branch", "checkOut", "checkOut", "checkOut", "reset", "merge", "merge",
        "merge", "putOnto"};
    private static final String[] QUESTIONS = {"content", "changedPaths", "currentBranch", "head", "commits",
        "contentIn", "parentOf", "generation", "isAncestor", "isAncestorByWalking", "base", "baseByWalking", "bases",
        "movedTo", "conflicts", "conflicts", "lastChange", "packed", "depthOf", "packedFrom", "packSize",
        "packShare", "meanFiles"};

    private static final String[] HAPPENINGS = {"commit new", "commit old", "commit IllegalStateException at sixty",
        "commit old at sixty", "merge new", "merge old", "merge IllegalStateException",
        "merge UnsupportedOperationException", "merge UnsupportedOperationException at sixty", "merge old at sixty",
        "putOnto new", "putOnto old", "putOnto IllegalStateException", "putOnto UnsupportedOperationException",
        "putOnto UnsupportedOperationException at sixty", "putOnto old at sixty", "bases several", "conflicts 0",
        "conflicts 1", "conflicts several", "movedTo old", "lastChange NoSuchElementException",
        "packShare ArithmeticException"};

    private static final Check CHECK = new Check("ModelRunsTest");
    private static final Map<String, Integer> SEEN = new HashMap<>();
    private static final Map<String, Method> OF_HALL = methodsOf(ForkHall.class, ForkHall.class);
    private static final Map<String, Method> OF_MODEL = methodsOf(Model.class, ForkHall.class);

    private long seed;
    private final int paths;
    private final int signs;
    private final int questionShare;
    private final int workShare;
    private final ForkHall hall = new ForkHall();
    private final Model model = new Model();

    private ModelRunsTest(int run) {
        seed = run * 7919L + 17;
        paths = 2 + below(7);
        signs = 2 + below(3) * 4;
        questionShare = below(7);
        workShare = 2 + below(5);
    }

    public static void main(String[] args) {
        for (int run = 0; run < RUNS; run++) {
            new ModelRunsTest(run).run(run);
        }
        for (String happening : HAPPENINGS) {
            CHECK.isTrue("the runs come to: " + happening, SEEN.getOrDefault(happening, 0) >= 10);
        }
        CHECK.end();
    }

    private int below(int bound) {
        seed = seed * 6364136223846793005L + 1442695040888963407L;
        return (int) ((seed >>> 33) % bound);
    }

    private void run(int run) {
        for (int call = 0; call < CALLS; call++) {
            String name = nextCall();
            int a = argument(name, 0);
            int b = argument(name, 1);
            int c = argument(name, 2);
            int before = model.commits();
            String due = ask(model, OF_MODEL.get(name), a, b, c);
            String got = ask(hall, OF_HALL.get(name), a, b, c);
            if (!got.equals(due)) {
                String told = name + "(" + a + ", " + b + ", " + c + ")";
                CHECK.same("run " + run + " call " + call + ": " + told, got, due);
                return;
            }
            note(name, due, before);
        }
        CHECK.same("run " + run, "as the model", "as the model");
    }

    /** Counts what the runs come to, so that a change of them that leaves an edge out is seen. */
    private void note(String name, String due, int before) {
        String outcome;
        if (due.startsWith("java")) {
            outcome = due.substring(due.lastIndexOf('.') + 1);
        } else if (due.equals("true") || due.equals("false")) {
            outcome = due;
        } else if (name.equals("bases") || name.equals("conflicts")) {
            outcome = Integer.parseInt(due) > 1 ? "several" : due;
        } else {
            outcome = model.commits() > before ? "new" : "old";
        }
        SEEN.merge(name + " " + outcome + (before == 60 ? " at sixty" : ""), 1, Integer::sum);
    }

    private String nextCall() {
        if (below(10) < questionShare) {
            return QUESTIONS[below(QUESTIONS.length)];
        }
        if (below(10) < workShare) {
            return WORK[below(WORK.length)];
        }
        // Most steps refuse a work tree with changes.
        return model.changedPaths() > 0 && below(5) > 0 ? "commit" : STEPS[below(STEPS.length)];
    }

    private int argument(String name, int which) {
        if (below(60) == 0) {
            return WRONG[below(WRONG.length)];
        }
        switch (name) {
            case "write":
                return which == 0 ? below(paths) : nearContent();
            case "depthOf":
            case "packedFrom":
                return someContent();
            case "branch":
            case "checkOut":
            case "merge":
            case "putOnto":
            case "head":
                return below(below(3) == 0 ? 5 : 3);
            case "contentIn":
                return which == 0 ? someCommit() : below(paths);
            case "parentOf":
                return which == 0 ? someCommit() : below(2);
            case "movedTo":
                return which < 2 ? someCommit() : below(paths);
            case "erase":
            case "move":
                return which == 0 ? somePath() : below(paths);
            case "content":
            case "lastChange":
                return below(paths);
            default:
                return someCommit();
        }
    }

    private int someCommit() {
        int all = model.commits();
        return below(2) == 0 ? below(all) : all - 1 - below(Math.min(all, 6));
    }

    private int fileAt(int path) {
        try {
            return model.content(path);
        } catch (NoSuchElementException e) {
            return -1;
        }
    }

    /** Mostly a path with a file. */
    private int somePath() {
        int path = below(paths);
        for (int tries = 0; tries < 4 && fileAt(path) < 0; tries++) {
            path = below(paths);
        }
        return path;
    }

    /** Mostly a file's content with one line changed. */
    private int nearContent() {
        int near = fileAt(below(paths));
        if (near < 0 || below(4) == 0) {
            return someContent();
        }
        int weight = WEIGHTS[below(WEIGHTS.length)];
        return near - near / weight % 10 * weight + below(signs) * weight;
    }

    private int someContent() {
        int content = 0;
        for (int line = 0; line < 4; line++) {
            content = content * 10 + (below(3) == 0 ? below(signs) : 0);
        }
        return content;
    }

    /** Takes as many of the arguments as the method has; an exception is answered by its class's name. */
    private static String ask(Object store, Method method, int... arguments) {
        Object[] taken = new Object[method.getParameterCount()];
        for (int i = 0; i < taken.length; i++) {
            taken[i] = arguments[i];
        }
        try {
            return method.invoke(store, taken).toString();
        } catch (InvocationTargetException e) {
            return e.getCause().getClass().getName();
        } catch (IllegalAccessException e) {
            throw new IllegalStateException(e);
        }
    }

    private static Map<String, Method> methodsOf(Class<?> store, Class<?> face) {
        Map<String, Method> methods = new HashMap<>();
        for (Method method : face.getMethods()) {
            if (method.getDeclaringClass() == face) {
                try {
                    methods.put(method.getName(),
                            store.getDeclaredMethod(method.getName(), method.getParameterTypes()));
                } catch (NoSuchMethodException e) {
                    throw new IllegalStateException(e);
                }
            }
        }
        return methods;
    }
}
