import java.util.Arrays;

/** Stores that several tests begin with. */
final class Stores {
    static final int NO_FILE = -1;

    private Stores() {
    }

    /** Makes the work tree have just these files; NO_FILE, or an end ahead of path 7, stands for none. */
    static void setWork(ForkHall hall, int... files) {
        int[] all = Arrays.copyOf(files, 8);
        Arrays.fill(all, files.length, 8, NO_FILE);
        for (int path = 0; path < 8; path++) {
            hall.write(path, Math.max(all[path], 0));
            if (all[path] == NO_FILE) {
                hall.erase(path);
            }
        }
    }

    static int commitTree(ForkHall hall, int... files) {
        setWork(hall, files);
        return hall.commit();
    }

    /** One commit for each of the trees, 1 and so on, each on the one before. */
    static ForkHall chain(int[]... trees) {
        ForkHall hall = new ForkHall();
        for (int[] tree : trees) {
            commitTree(hall, tree);
        }
        return hall;
    }

    /** Commit 1 has the base tree and is the head of both branches; branch 0 is the current one. */
    static ForkHall forked(int... base) {
        ForkHall hall = new ForkHall();
        commitTree(hall, base);
        hall.branch(1);
        return hall;
    }

    /** Commit 1 is the base, 2 has ours, on branch 0, the current one, and 3 has theirs, on branch 1. */
    static ForkHall diverged(int[] base, int[] ours, int[] theirs) {
        ForkHall hall = forked(base);
        commitTree(hall, ours);
        hall.checkOut(1);
        commitTree(hall, theirs);
        hall.checkOut(0);
        return hall;
    }

    /** Commit 0 is the base, 1 has ours, on branch 0, the current one, and 2 has theirs, on branch 1. */
    static ForkHall divergedFromNothing(int[] ours, int[] theirs) {
        ForkHall hall = new ForkHall();
        hall.branch(1);
        commitTree(hall, ours);
        hall.checkOut(1);
        commitTree(hall, theirs);
        hall.checkOut(0);
        return hall;
    }

    static int[] files(int... contents) {
        return contents;
    }

    /** Adds commits on the current branch, each with another content at path 7, until so many are there. */
    static ForkHall fillTo(ForkHall hall, int commits) {
        for (int made = hall.commits(); made < commits; made++) {
            hall.write(7, 5000 + made);
            hall.commit();
        }
        return hall;
    }

    /** The full store: 60 commits, 5 branches and 8 files; branches 0 to 4 have the heads 59, 1, 20, 40 and 59. */
    static ForkHall full() {
        ForkHall hall = new ForkHall();
        for (int path = 0; path < 8; path++) {
            hall.write(path, 1000 * (path + 1));
        }
        hall.commit();
        hall.branch(1);
        for (int made = 2; made < 60; made++) {
            hall.write(made % 8, 1000 * (made % 8 + 1) + made);
            hall.commit();
            if (made == 20 || made == 40) {
                hall.branch(1 + made / 20);
            }
        }
        hall.branch(4);
        return hall;
    }

    static ForkHall fullWithChanges() {
        ForkHall hall = full();
        hall.erase(0);
        return hall;
    }

    /** Branch 0, the current one, with 2, and branch 1 with the last commit merge without a conflict. */
    static ForkHall mergeableAt(int commits) {
        return aside(files(1112, 5678), commits);
    }

    /** Branch 0, the current one, with 2, and branch 1 with the last commit have a conflict at path 0. */
    static ForkHall clashingAt(int commits) {
        return aside(files(1113, 5678), commits);
    }

    private static ForkHall aside(int[] theirs, int commits) {
        ForkHall hall = diverged(files(1111, 5678), files(1112, 5678, 2222), theirs);
        hall.checkOut(1);
        fillTo(hall, commits);
        hall.checkOut(0);
        return hall;
    }

    static ForkHall withChanges(ForkHall hall) {
        hall.write(6, 6060);
        return hall;
    }
}
