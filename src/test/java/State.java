import java.util.NoSuchElementException;
import java.util.function.IntSupplier;

/** All that a store says of itself, as a text; of its commits the latest, as an object has 512 calls in all. */
final class State {
    private static final int LATEST = 10;

    private State() {
    }

    static String of(ForkHall hall) {
        StringBuilder text = new StringBuilder();
        text.append("work ").append(workTree(hall)).append(" changed ").append(hall.changedPaths());
        text.append(" on ").append(hall.currentBranch()).append(" heads");
        for (int branch = 0; branch < 5; branch++) {
            int number = branch;
            text.append(' ').append(orNone(() -> hall.head(number)));
        }
        text.append(" packed ").append(hall.packed()).append(" size ").append(hall.packSize());
        text.append(" mean ").append(hall.meanFiles()).append(" commits ").append(hall.commits());
        for (int commit = Math.max(0, hall.commits() - LATEST); commit < hall.commits(); commit++) {
            text.append(" | ").append(commitOf(hall, commit));
        }
        return text.toString();
    }

    static String workTree(ForkHall hall) {
        StringBuilder text = new StringBuilder();
        for (int path = 0; path < 8; path++) {
            int place = path;
            text.append(path == 0 ? "" : ",").append(orNone(() -> hall.content(place)));
        }
        return text.toString();
    }

    static String tree(ForkHall hall, int commit) {
        StringBuilder text = new StringBuilder();
        for (int path = 0; path < 8; path++) {
            int place = path;
            text.append(path == 0 ? "" : ",").append(orNone(() -> hall.contentIn(commit, place)));
        }
        return text.toString();
    }

    static String parents(ForkHall hall, int commit) {
        return orNone(() -> hall.parentOf(commit, 0)) + "," + orNone(() -> hall.parentOf(commit, 1));
    }

    private static String commitOf(ForkHall hall, int commit) {
        return tree(hall, commit) + " of " + parents(hall, commit) + " at " + hall.generation(commit);
    }

    private static String orNone(IntSupplier question) {
        try {
            return Integer.toString(question.getAsInt());
        } catch (NoSuchElementException e) {
            return "-";
        }
    }
}
