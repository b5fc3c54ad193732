import java.util.ArrayList;
import java.util.List;
import java.util.NoSuchElementException;
import java.util.Set;
import java.util.TreeSet;
import java.util.function.IntSupplier;
import java.util.function.Supplier;

/** All that a store says of itself, as texts. */
final class State {
    private static final int LATEST = 10;
    private static final int COMMITS_OF_A_PART = 12;

    private State() {
    }

    /** Of its commits the latest alone, as an object has 512 calls in all. */
    static String of(ForkHall hall) {
        StringBuilder text = new StringBuilder();
        text.append("work ").append(workTree(hall)).append(" changed ").append(hall.changedPaths());
        text.append(" on ").append(hall.currentBranch()).append(" heads");
        for (int branch = 0; branch < 5; branch++) {
            int number = branch;
            text.append(' ').append(orNone(() -> hall.head(number)));
        }
        text.append(" packed ").append(hall.packed()).append(" size ").append(hall.packSize());
        text.append(" mean ").append(hall.meanFiles()).append(" commits ").append(hall.commits());
        for (int commit = Math.max(0, hall.commits() - LATEST); commit < hall.commits(); commit++) {
            text.append(" | ").append(commitOf(hall, commit));
        }
        return text.toString();
    }

    /** In parts, each of which an object of its own tells, so that none has more than 512 calls. */
    static List<String> whole(Supplier<ForkHall> maker) {
        List<String> parts = new ArrayList<>();
        parts.add(surface(maker.get()));
        parts.add(future(maker.get()));
        int commits = maker.get().commits();
        for (int from = 0; from < commits; from += COMMITS_OF_A_PART) {
            int end = Math.min(commits, from + COMMITS_OF_A_PART);
            parts.add(commitsOf(maker.get(), from, end));
            parts.add(packsOf(maker.get(), from, end));
            parts.add(historiesOf(maker.get(), from, end));
        }
        return parts;
    }

    static String workTree(ForkHall hall) {
        StringBuilder text = new StringBuilder();
        for (int path = 0; path < 8; path++) {
            int place = path;
            text.append(path == 0 ? "" : ",").append(orNone(() -> hall.content(place)));
        }
        return text.toString();
    }

    static String tree(ForkHall hall, int commit) {
        StringBuilder text = new StringBuilder();
        for (int path = 0; path < 8; path++) {
            int place = path;
            text.append(path == 0 ? "" : ",").append(orNone(() -> hall.contentIn(commit, place)));
        }
        return text.toString();
    }

    static String parents(ForkHall hall, int commit) {
        return orNone(() -> hall.parentOf(commit, 0)) + "," + orNone(() -> hall.parentOf(commit, 1));
    }

    /** What movedTo answers for each path, with - for none. */
    static String moves(ForkHall hall, int commit, int other) {
        StringBuilder text = new StringBuilder();
        for (int path = 0; path < 8; path++) {
            int place = path;
            text.append(orNone(() -> hall.movedTo(commit, other, place)));
        }
        return text.toString();
    }

    private static String surface(ForkHall hall) {
        StringBuilder text = new StringBuilder(of(hall));
        text.append(" share ").append(Check.toldBy(hall::packShare)).append(" last changes");
        for (int path = 0; path < 8; path++) {
            int place = path;
            text.append(' ').append(orNone(() -> hall.lastChange(place)));
        }
        return text.toString();
    }

    private static String commitsOf(ForkHall hall, int from, int end) {
        StringBuilder text = new StringBuilder();
        for (int commit = from; commit < end; commit++) {
            text.append(" | ").append(commitOf(hall, commit));
        }
        return text.toString();
    }

    private static String commitOf(ForkHall hall, int commit) {
        return tree(hall, commit) + " of " + parents(hall, commit) + " at " + hall.generation(commit);
    }

    private static String packsOf(ForkHall hall, int from, int end) {
        Set<Integer> contents = new TreeSet<>();
        for (int commit = from; commit < end; commit++) {
            for (int path = 0; path < 8; path++) {
                try {
                    contents.add(hall.contentIn(commit, path));
                } catch (NoSuchElementException e) {
                    continue;
                }
            }
        }
        StringBuilder text = new StringBuilder();
        for (int content : contents) {
            text.append(' ').append(content).append(" at ").append(orNone(() -> hall.depthOf(content)));
            text.append(" from ").append(orNone(() -> hall.packedFrom(content)));
        }
        return text.toString();
    }

    /** Each commit's kinship with the last one. */
    private static String historiesOf(ForkHall hall, int from, int end) {
        int last = hall.commits() - 1;
        StringBuilder text = new StringBuilder();
        for (int commit = from; commit < end; commit++) {
            text.append(' ').append(hall.isAncestor(commit, last)).append(hall.isAncestorByWalking(commit, last));
            text.append(hall.isAncestor(last, commit)).append(hall.isAncestorByWalking(last, commit));
            text.append(hall.base(commit, last)).append(' ').append(hall.baseByWalking(last, commit));
            text.append(' ').append(hall.bases(commit, last)).append(' ').append(hall.conflicts(commit, last));
            text.append(' ').append(moves(hall, commit, last));
        }
        return text.toString();
    }

    /** What the store answers when it is used on: a change that no question shows may show here. */
    private static String future(ForkHall hall) {
        List<String> told = new ArrayList<>();
        told.add(Check.toldBy(hall::commit));
        told.add(Check.toldBy(() -> hall.write(6, 4242)));
        told.add(Check.toldBy(hall::commit));
        for (int branch = 0; branch < 5; branch++) {
            int number = branch;
            told.add(Check.toldBy(() -> hall.merge(number)));
            told.add(Check.toldBy(() -> hall.branch(number)));
            told.add(Check.toldBy(() -> hall.checkOut(number)));
            told.add(Check.toldBy(() -> hall.putOnto(0)));
        }
        told.add(Check.toldBy(() -> hall.reset(0)));
        told.add(Check.toldBy(() -> hall.write(3, 3131)));
        told.add(Check.toldBy(hall::commit));
        told.add(Check.toldBy(() -> hall.merge(0)));
        return told + " then " + of(hall);
    }

    private static String orNone(IntSupplier question) {
        try {
            return Integer.toString(question.getAsInt());
        } catch (NoSuchElementException e) {
            return "-";
        }
    }
}
