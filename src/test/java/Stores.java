import java.util.Arrays;

/** Stores that several tests begin with. */
final class Stores {
    static final int NO_FILE = -1;

    private Stores() {
    }

    /** Makes the work tree have just these files; NO_FILE, or an end ahead of path 7, stands for none. */
    static void setWork(ForkHall hall, int... files) {
        int[] all = Arrays.copyOf(files, 8);
        Arrays.fill(all, files.length, 8, NO_FILE);
        for (int path = 0; path < 8; path++) {
            hall.write(path, Math.max(all[path], 0));
            if (all[path] == NO_FILE) {
                hall.erase(path);
            }
        }
    }

    static int commitTree(ForkHall hall, int... files) {
        setWork(hall, files);
        return hall.commit();
    }

    /** Commit 1 has the base tree and is the head of both branches; branch 0 is the current one. */
    static ForkHall forked(int... base) {
        ForkHall hall = new ForkHall();
        commitTree(hall, base);
        hall.branch(1);
        return hall;
    }

    /** Commit 1 is the base, 2 has ours, on branch 0, the current one, and 3 has theirs, on branch 1. */
    static ForkHall diverged(int[] base, int[] ours, int[] theirs) {
        ForkHall hall = forked(base);
        commitTree(hall, ours);
        hall.checkOut(1);
        commitTree(hall, theirs);
        hall.checkOut(0);
        return hall;
    }

    static int[] files(int... contents) {
        return contents;
    }

    /** Adds commits on the current branch, each with another content at path 7, until so many are there. */
    static ForkHall fillTo(ForkHall hall, int commits) {
        for (int made = hall.commits(); made < commits; made++) {
            hall.write(7, 5000 + made);
            hall.commit();
        }
        return hall;
    }
}
