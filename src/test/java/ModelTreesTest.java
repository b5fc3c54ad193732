import java.util.NoSuchElementException;
import java.util.function.IntSupplier;

/** Three trees of few and like contents, a base and two sides, merged and compared as the model does it. */
public final class ModelTreesTest {
    private static final int TRIPLES = 30000;

    private static final Check CHECK = new Check("ModelTreesTest");
    private static int merged = 0;
    private static int refused = 0;

    private long seed = 4711;

    public static void main(String[] args) {
        ModelTreesTest test = new ModelTreesTest();
        for (int triple = 0; triple < TRIPLES; triple++) {
            test.compare(triple);
        }
        CHECK.isTrue("many merges come out", merged > 3000);
        CHECK.isTrue("many merges are refused", refused > 3000);
        CHECK.end();
    }

    private int below(int bound) {
        seed = seed * 6364136223846793005L + 1442695040888963407L;
        return (int) ((seed >>> 33) % bound);
    }

    private int content() {
        int content = 0;
        for (int line = 0; line < 4; line++) {
            content = content * 10 + (below(4) == 0 ? 1 + below(2) : 0);
        }
        return content;
    }

    private int[] base() {
        int[] files = new int[8];
        for (int path = 0; path < 8; path++) {
            files[path] = below(2) == 0 ? content() : Stores.NO_FILE;
        }
        return files;
    }

    private int[] side(int[] base, int changes) {
        int[] files = base.clone();
        for (int change = 0; change < changes; change++) {
            int path = below(8);
            int other = below(8);
            switch (below(4)) {
                case 0 -> files[path] = content();
                case 1 -> files[path] = Stores.NO_FILE;
                default -> {
                    if (files[other] == Stores.NO_FILE) {
                        files[other] = files[path];
                        files[path] = Stores.NO_FILE;
                    }
                }
            }
        }
        return files;
    }

    private static void setWork(Model model, int[] files) {
        for (int path = 0; path < 8; path++) {
            model.write(path, Math.max(files[path], 0));
            if (files[path] == Stores.NO_FILE) {
                model.erase(path);
            }
        }
    }

    private static int orNone(IntSupplier question) {
        try {
            return question.getAsInt();
        } catch (NoSuchElementException e) {
            return -1;
        }
    }

    private void compare(int triple) {
        int[] base = base();
        int[][] trees = {base, side(base, 1 + below(3)), side(base, 1 + below(3))};
        ForkHall hall = new ForkHall();
        Model model = new Model();
        for (int i = 0; i < trees.length; i++) {
            Stores.setWork(hall, trees[i]);
            setWork(model, trees[i]);
            if (model.changedPaths() == 0) {
                return;
            }
            hall.commit();
            model.commit();
            if (i == 0) {
                hall.branch(1);
                model.branch(1);
            } else if (i == 1) {
                hall.checkOut(1);
                model.checkOut(1);
            }
        }
        ask(triple, hall, model);
    }

    private static void ask(int triple, ForkHall hall, Model model) {
        int last = model.commits() - 1;
        for (int path = 0; path < 8; path++) {
            int place = path;
            int due = orNone(() -> model.movedTo(last - 1, last, place));
            if (orNone(() -> hall.movedTo(last - 1, last, place)) != due) {
                CHECK.same("move of " + path + " in triple " + triple, -2, due);
            }
        }
        CHECK.same("conflicts in " + triple, hall.conflicts(last - 1, last), model.conflicts(last - 1, last));
        String due = Check.thrownBy(() -> model.merge(0));
        CHECK.same("merge in " + triple, Check.thrownBy(() -> hall.merge(0)), due);
        if (due.equals("nothing")) {
            merged++;
        } else {
            refused++;
        }
        for (int path = 0; path < 8; path++) {
            int place = path;
            int expected = orNone(() -> model.content(place));
            if (orNone(() -> hall.content(place)) != expected) {
                CHECK.same("content at " + path + " in triple " + triple, -2, expected);
            }
        }
    }
}
