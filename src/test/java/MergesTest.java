import java.util.NoSuchElementException;

/** Promises 11 and 25: merging branches, and the conflicts of trees. */
public final class MergesTest {
    private static final Check CHECK = new Check("MergesTest");
    private static final int NO = Stores.NO_FILE;

    public static void main(String[] args) {
        forward();
        mergeCommit();
        mergeThatIsThere();
        refusals();
        limit();
        erasedFiles();
        places();
        lines();
        newFiles();
        crowdedPaths();
        bestBase();
        conflictsOfAnyCommits();
        CHECK.end();
    }

    private static int[] files(int... contents) {
        return contents;
    }

    /** Both ways round: the tree that the merge makes, and no conflict. */
    private static void merges(String what, int[] base, int[] ours, int[] theirs, String due) {
        ForkHall hall = Stores.diverged(base, ours, theirs);
        CHECK.same(what + ": conflicts", hall.conflicts(2, 3), 0);
        CHECK.same(what + ": conflicts the other way", hall.conflicts(3, 2), 0);
        CHECK.same(what + ": merge", hall.merge(1), 4);
        CHECK.same(what + ": the merged tree", State.tree(hall, 4), due);
        CHECK.same(what + ": the work tree", State.workTree(hall), due);
        ForkHall back = Stores.diverged(base, theirs, ours);
        back.merge(1);
        CHECK.same(what + ": the tree merged the other way", State.tree(back, 4), due);
    }

    /** Both ways round: the number of conflicts, and a merge that is refused. */
    private static void clashes(String what, int[] base, int[] ours, int[] theirs, int due) {
        ForkHall hall = Stores.diverged(base, ours, theirs);
        CHECK.same(what + ": conflicts", hall.conflicts(2, 3), due);
        CHECK.same(what + ": conflicts the other way", hall.conflicts(3, 2), due);
        CHECK.refuses(what, UnsupportedOperationException.class, () -> Stores.diverged(base, ours, theirs),
                x -> x.merge(1));
    }

    private static ForkHall ahead() {
        ForkHall hall = Stores.forked(1111);
        hall.checkOut(1);
        Stores.commitTree(hall, 1112);
        Stores.commitTree(hall, 1113, 5);
        hall.checkOut(0);
        return hall;
    }

    private static void forward() {
        ForkHall hall = ahead();
        CHECK.same("a head behind goes forward", hall.merge(1), 3);
        CHECK.same("it has the other head", hall.head(0), 3);
        CHECK.same("with no new commit", hall.commits(), 4);
        CHECK.same("and its tree", State.workTree(hall), "1113,5,-,-,-,-,-,-");
        CHECK.same("on the same branch", hall.currentBranch(), 0);
        CHECK.same("the other one stays", hall.head(1), 3);
        ForkHall full = ahead();
        full.checkOut(1);
        Stores.fillTo(full, 60);
        full.checkOut(0);
        CHECK.same("forward at sixty commits", full.merge(1), 59);
    }

    private static ForkHall simple() {
        return Stores.diverged(files(1111), files(1111, 2222), files(1112));
    }

    private static ForkHall simpleWithChanges() {
        ForkHall hall = simple();
        hall.write(5, 5);
        return hall;
    }

    private static void mergeCommit() {
        ForkHall hall = simple();
        CHECK.same("a merge is a commit", hall.merge(1), 4);
        CHECK.same("of both parents, ours first", State.parents(hall, 4), "2,3");
        CHECK.same("the head of the current branch", hall.head(0), 4);
        CHECK.same("not of the other one", hall.head(1), 3);
        CHECK.same("its tree", State.tree(hall, 4), "1112,2222,-,-,-,-,-,-");
        CHECK.same("no changes", hall.changedPaths(), 0);
        ForkHall same = Stores.diverged(files(1111), files(1112, 7), files(1112));
        CHECK.same("a merge with our own tree is a commit, too", same.merge(1), 4);
        CHECK.same("its tree is ours", State.tree(same, 4), "1112,7,-,-,-,-,-,-");
    }

    private static void mergeThatIsThere() {
        ForkHall hall = simple();
        hall.merge(1);
        hall.reset(2);
        CHECK.same("the same merge again", hall.merge(1), 4);
        CHECK.same("is no new commit", hall.commits(), 5);
        hall.reset(2);
        hall.checkOut(1);
        CHECK.same("the merge the other way is one", hall.merge(0), 5);
        CHECK.same("with the parents in their order", State.parents(hall, 5), "3,2");
    }

    private static void refusals() {
        for (int branch : new int[] {-1, 5, Integer.MIN_VALUE, Integer.MAX_VALUE}) {
            CHECK.refuses("merge of branch " + branch, IndexOutOfBoundsException.class,
                    MergesTest::simpleWithChanges, x -> x.merge(branch));
        }
        CHECK.refuses("merge of no branch", NoSuchElementException.class, MergesTest::simpleWithChanges,
                x -> x.merge(2));
        CHECK.refuses("merge with changes", IllegalStateException.class, MergesTest::simpleWithChanges,
                x -> x.merge(1));
        CHECK.refuses("merge of itself", IllegalStateException.class, MergesTest::simple, x -> x.merge(0));
        CHECK.refuses("merge of what is merged", IllegalStateException.class, () -> {
            ForkHall hall = simple();
            hall.merge(1);
            return hall;
        }, x -> x.merge(1));
        CHECK.refuses("merge of an equal head", IllegalStateException.class, () -> Stores.forked(1, 2, 3),
                x -> x.merge(1));
        CHECK.refuses("a conflict with changes", IllegalStateException.class, () -> {
            ForkHall hall = Stores.diverged(files(1111), files(1112), files(1113));
            hall.write(5, 5);
            return hall;
        }, x -> x.merge(1));
        CHECK.refuses("forward with changes", IllegalStateException.class, () -> {
            ForkHall hall = ahead();
            hall.write(5, 5);
            return hall;
        }, x -> x.merge(1));
    }

    private static ForkHall simpleAt(int commits) {
        ForkHall hall = simple();
        Stores.fillTo(hall, commits);
        return hall;
    }

    private static void limit() {
        CHECK.answers("a merge as the sixtieth commit", () -> simpleAt(59), x -> x.merge(1), 59);
        CHECK.refuses("a merge as the 61st commit", UnsupportedOperationException.class, () -> simpleAt(60),
                x -> x.merge(1));
        ForkHall hall = simple();
        hall.merge(1);
        Stores.fillTo(hall, 60);
        hall.reset(2);
        CHECK.same("a merge that is there, at sixty commits", hall.merge(1), 4);
    }

    private static void erasedFiles() {
        merges("erased on one side", files(1111, 2222), files(1111), files(1111, 2222, 3333),
                "1111,-,3333,-,-,-,-,-");
        merges("erased on both", files(1111, 2222), files(1111, NO, NO, 5), files(1111), "1111,-,-,5,-,-,-,-");
        clashes("erased and written", files(1111, 2222), files(1111), files(1111, 2223), 1);
        clashes("erased and moved", files(1111, 2222), files(1111), files(1111, NO, 2222), 1);
        clashes("erased and moved with a change", files(1111, 2222), files(1111), files(1111, NO, 2223), 1);
        clashes("erased and replaced", files(1111, 2222), files(1111), files(1111, 9999), 1);
        merges("gone, with something unlike elsewhere", files(1111, 2222), files(1111, NO, 8888),
                files(1111, 2222, NO, 7), "1111,-,8888,7,-,-,-,-");
        clashes("two files erased and written", files(1111, 2222), files(NO, NO, 7), files(1112, 2223), 2);
    }

    private static void places() {
        merges("moved on one side", files(1111), files(NO, 1111), files(1111, NO, 5), "-,1111,5,-,-,-,-,-");
        merges("moved on one side, written on the other", files(1111), files(NO, 1111), files(1112),
                "-,1112,-,-,-,-,-,-");
        merges("moved to the same place", files(1111), files(NO, 1111), files(NO, 1111, 5), "-,1111,5,-,-,-,-,-");
        merges("moved to the same place with changes", files(1111), files(NO, 1121), files(NO, 1112),
                "-,1122,-,-,-,-,-,-");
        clashes("moved to two places", files(1111), files(NO, 1111), files(NO, NO, 1111), 1);
        clashes("moved to two places and written otherwise", files(1111), files(NO, 1112), files(NO, NO, 1113), 1);
        merges("moved, and a new file in the old place", files(1111, 2222), files(1111, NO, 2222),
                files(1111, 2222, NO, 4444), "1111,-,2222,4444,-,-,-,-");
        merges("moved on, the old path written anew: it is not gone", files(1111), files(7777, 1111),
                files(1111, NO, 5), "7777,1111,5,-,-,-,-,-");
        merges("exchanged: both paths have files still", files(1111, 2222), files(2222, 1111),
                files(1111, 2222, 5), "2222,1111,5,-,-,-,-,-");
    }

    private static void lines() {
        merges("different lines", files(1234), files(9234), files(1239), "9239,-,-,-,-,-,-,-");
        merges("the inner lines", files(1234), files(1934), files(1294), "1994,-,-,-,-,-,-,-");
        merges("three lines and one", files(1234), files(9994), files(1239), "9999,-,-,-,-,-,-,-");
        merges("the same line alike", files(1234), files(1235), files(1235, 7), "1235,7,-,-,-,-,-,-");
        merges("alike in one and different in others", files(1234), files(5235), files(1295),
                "5295,-,-,-,-,-,-,-");
        merges("lines become zero", files(1234), files(234), files(1230), "230,-,-,-,-,-,-,-");
        merges("lines of small contents", files(0), files(1), files(1000), "1001,-,-,-,-,-,-,-");
        clashes("the first line", files(1234), files(2234), files(3234), 1);
        clashes("the last line", files(1234), files(1235), files(1236), 1);
        clashes("one of two lines", files(1234), files(1255), files(1264), 1);
        clashes("two conflicting lines are one file", files(1234), files(1255), files(1266), 1);
        clashes("line and place are one file", files(1234), files(NO, 1235), files(NO, NO, 1236), 1);
        clashes("two files", files(1234, 1234), files(1235, 1235), files(1236, 1236), 2);
    }

    private static void newFiles() {
        merges("on different paths", files(1111), files(1111, 5), files(1111, NO, 6), "1111,5,6,-,-,-,-,-");
        merges("the same on both sides", files(1111), files(1111, 5), files(1111, 5, 6), "1111,5,6,-,-,-,-,-");
        clashes("different contents on one path", files(1111), files(1111, 5), files(1111, 6), 1);
        clashes("on the first path", files(NO, 1111), files(5, 1111), files(6, 1111), 1);
        clashes("on the last path", files(1111), files(1111, NO, NO, NO, NO, NO, NO, 5),
                files(1111, NO, NO, NO, NO, NO, NO, 6), 1);
        clashes("on two paths", files(1111), files(1111, 5, 7), files(1111, 6, 8), 2);
        merges("content 0", files(1111), files(1111, 0), files(1111, NO, 0), "1111,0,0,-,-,-,-,-");
    }

    private static void crowdedPaths() {
        clashes("moved to where the other has a new file", files(1111), files(NO, 1111), files(1111, 5), 1);
        clashes("though the contents are the same", files(1111), files(NO, 1111), files(1111, 1111), 1);
        clashes("two files moved to one path", files(1111, 2222), files(NO, 2222, 1111), files(1111, NO, 2222), 1);
        clashes("two equal files moved to one path", files(1111, 1111), files(NO, 1111, 1111),
                files(1111, NO, 1111), 1);
        merges("a file of a conflict has no place", files(1111, 2222), files(NO, 2222, 1111),
                files(1111, 2222, NO, 5), "-,2222,1111,5,-,-,-,-");
        clashes("a conflict does not crowd a path", files(1111, 2222), files(NO, NO, 1112, 5),
                files(1113, NO, NO, NO, 2222), 2);
        clashes("a conflict of lines moved to a new file's path", files(1111), files(NO, 1112),
                files(1113, 5555), 1);
        clashes("two crowded paths", files(1111, 2222), files(NO, NO, 1111, 2222), files(1111, 2222, 5, 6), 2);
        clashes("a file and a path", files(1111, 2222), files(1112, 2222, 5), files(1113, 2222, 6), 2);
    }

    /** Of the bases 2 and 3 it is 3 that counts: the line changed in 2 alone is changed on both sides. */
    private static void bestBase() {
        ForkHall hall = Stores.diverged(files(1111), files(1112), files(1121));
        hall.branch(2);
        hall.merge(1);
        hall.checkOut(1);
        hall.merge(2);
        hall.checkOut(0);
        Stores.commitTree(hall, 1121);
        CHECK.same("two bases", hall.bases(6, 5), 2);
        CHECK.same("the best one", hall.base(6, 5), 3);
        CHECK.same("no conflict over it", hall.conflicts(6, 5), 0);
        CHECK.same("the merge over it", hall.merge(1), 7);
        CHECK.same("takes the line of the other side", State.tree(hall, 7), "1122,-,-,-,-,-,-,-");
    }

    private static void conflictsOfAnyCommits() {
        ForkHall hall = Stores.diverged(files(1111), files(NO, 1112), files(1113, 5));
        CHECK.same("a commit with itself", hall.conflicts(2, 2), 0);
        CHECK.same("with an ancestor", hall.conflicts(2, 0), 0);
        CHECK.same("with a descendant", hall.conflicts(1, 3), 0);
        CHECK.same("the commits are as they were", hall.commits(), 4);
        for (int commit : new int[] {-1, 4, 60, Integer.MIN_VALUE, Integer.MAX_VALUE}) {
            CHECK.refuses("conflicts of " + commit, IndexOutOfBoundsException.class, MergesTest::simple,
                    x -> x.conflicts(commit, 0));
            CHECK.refuses("conflicts with " + commit, IndexOutOfBoundsException.class, MergesTest::simple,
                    x -> x.conflicts(0, commit));
        }
        ForkHall asked = simpleWithChanges();
        asked.conflicts(2, 3);
        CHECK.same("asking changes nothing", State.of(asked), State.of(simpleWithChanges()));
    }
}
