/** 'Terms', each sentence on merging branches. */
public final class TermsMergingBranchesTest {
    private static final Check CHECK = new Check("TermsMergingBranchesTest");
    private static final int NO = Stores.NO_FILE;

    public static void main(String[] args) {
        CHECK.sentence("A merge loses no change.");
        losesNoChange();
        CHECK.sentence("A branch is merged into the current one: if the head of the current one is an ancestor of that"
                + " of the other one, it becomes that.");
        forward();
        forwardThroughAMerge();
        CHECK.sentence("Otherwise, the trees of both heads, ours the current one, are merged over that of their best"
                + " base, and the result is committed with the current head as the first parent and the other one as"
                + " the second parent; this commit is the head of the current branch then.");
        committed();
        resultLikeATreeThatIsThere();
        overTheBestBase();
        oldMerge();
        CHECK.end();
    }

    private static int[] files(int... contents) {
        return contents;
    }

    /** Each of the two sides has written, erased, moved and added something; all of it is in the result. */
    private static void losesNoChange() {
        ForkHall hall = Stores.diverged(files(1111, 2222, 3333, 4444), files(1112, NO, 3333, 4444, 2222, 5),
                files(2111, 2227, NO, 4444, NO, NO, 66));
        CHECK.same("no conflict", hall.conflicts(2, 3), 0);
        CHECK.same("the merge", hall.merge(1), 4);
        CHECK.same("all changes", State.workTree(hall), "2112,-,-,4444,2227,5,66,-");
        CHECK.same("both heads are ancestors", hall.isAncestor(2, 4) && hall.isAncestor(3, 4), true);
    }

    private static ForkHall ahead(int commits) {
        ForkHall hall = new ForkHall();
        hall.branch(1);
        hall.checkOut(1);
        Stores.fillTo(hall, commits);
        hall.checkOut(0);
        return hall;
    }

    private static void goesForward(String what, ForkHall hall, int due) {
        int commits = hall.commits();
        CHECK.same(what, hall.merge(1), due);
        CHECK.same(what + ": the head", hall.head(0), due);
        CHECK.same(what + ": the other head", hall.head(1), due);
        CHECK.same(what + ": the current branch", hall.currentBranch(), 0);
        CHECK.same(what + ": no new commit", hall.commits(), commits);
        CHECK.same(what + ": the tree", State.workTree(hall), State.tree(hall, due));
        CHECK.same(what + ": no changes", hall.changedPaths(), 0);
        CHECK.same(what + ": again", Check.toldBy(() -> hall.merge(1)), Check.STATE);
    }

    private static void forward() {
        goesForward("from commit 0 to its child", ahead(2), 1);
        goesForward("from commit 0 to 58", ahead(59), 58);
        goesForward("from commit 0 to 59, in the full store", ahead(60), 59);
        ForkHall back = Stores.full();
        CHECK.same("a head behind", back.checkOut(1), 1);
        CHECK.same("goes to the last commit of the full store", back.merge(0), 59);
        CHECK.same("and stays its own branch", back.currentBranch(), 1);
        CHECK.refuses("an equal head has nothing to become", IllegalStateException.class, () -> Stores.forked(1, 2),
                x -> x.merge(1));
        CHECK.refuses("a new object's own branch has nothing", IllegalStateException.class, ForkHall::new,
                x -> x.merge(0));
        CHECK.refuses("a head ahead has nothing", IllegalStateException.class, Stores::full, x -> x.merge(1));
    }

    private static void forwardThroughAMerge() {
        ForkHall hall = Stores.mergeableAt(4);
        hall.checkOut(1);
        hall.merge(0);
        hall.checkOut(0);
        goesForward("to a merge with us as its second parent", hall, 4);
        ForkHall further = Stores.mergeableAt(4);
        further.checkOut(1);
        further.merge(0);
        Stores.fillTo(further, 7);
        further.checkOut(0);
        goesForward("to what follows it", further, 6);
    }

    private static void committed() {
        ForkHall hall = Stores.mergeableAt(6);
        CHECK.same("the number of the commit", hall.merge(1), 6);
        CHECK.same("its parents", State.parents(hall, 6), "2,5");
        CHECK.same("the head", hall.head(0), 6);
        CHECK.same("the other head", hall.head(1), 5);
        CHECK.same("the current branch", hall.currentBranch(), 0);
        CHECK.same("the tree", State.tree(hall, 6), "1112,5678,2222,-,-,-,-,5005");
        CHECK.same("the work tree", State.workTree(hall), "1112,5678,2222,-,-,-,-,5005");
        CHECK.same("no changes", hall.changedPaths(), 0);
        CHECK.same("the generation", hall.generation(6), 5);
        hall.checkOut(1);
        CHECK.same("the other branch goes forward then", hall.merge(0), 6);
        ForkHall turned = Stores.mergeableAt(6);
        turned.checkOut(1);
        CHECK.same("from the other branch", turned.merge(0), 6);
        CHECK.same("the parents are turned", State.parents(turned, 6), "5,2");
        CHECK.same("its head", turned.head(1), 6);
        CHECK.same("and not the first one's", turned.head(0), 2);
        ForkHall nothing = Stores.divergedFromNothing(files(1111), files(NO, 2222));
        CHECK.same("over commit 0", nothing.merge(1), 3);
        CHECK.same("its parents over commit 0", State.parents(nothing, 3), "1,2");
    }

    private static void resultLikeATreeThatIsThere() {
        ForkHall ours = Stores.diverged(files(1111), files(1112, 7), files(1112));
        CHECK.same("a result like our tree", ours.merge(1), 4);
        CHECK.same("is a commit of both parents", State.parents(ours, 4), "2,3");
        ForkHall theirs = Stores.diverged(files(1111), files(1112), files(1112, 7));
        CHECK.same("a result like their tree", theirs.merge(1), 4);
        CHECK.same("is one, too", State.parents(theirs, 4), "2,3");
        ForkHall back = Stores.diverged(files(1111), files(1112), files(1113));
        Stores.commitTree(back, 1111);
        CHECK.same("a result like the base's tree over a change taken back", back.merge(1), 5);
        CHECK.same("takes what the other side did", State.workTree(back), "1113,-,-,-,-,-,-,-");
        ForkHall both = Stores.diverged(files(1111), files(1112), files(1113));
        Stores.commitTree(both, 1111);
        both.checkOut(1);
        Stores.commitTree(both, 1111);
        both.checkOut(0);
        CHECK.same("two trees like the base's", both.merge(1), 6);
        CHECK.same("make a commit with it", State.tree(both, 6), "1111,-,-,-,-,-,-,-");
    }

    /** Bases are 2 and 3, which crossed merges have both; over 2 the last step would be a conflict. */
    private static void overTheBestBase() {
        ForkHall hall = Stores.diverged(files(1111), files(1112), files(1121));
        hall.branch(2);
        hall.merge(1);
        hall.checkOut(1);
        hall.merge(2);
        Stores.commitTree(hall, 1123);
        hall.checkOut(0);
        Stores.commitTree(hall, 1121);
        CHECK.same("two bases", hall.bases(7, 6), 2);
        CHECK.same("the best one", hall.base(7, 6), 3);
        CHECK.same("no conflict over it", hall.conflicts(7, 6), 0);
        CHECK.same("the merge", hall.merge(1), 8);
        CHECK.same("takes the line that 3 has otherwise", State.workTree(hall), "1123,-,-,-,-,-,-,-");
    }

    private static void oldMerge() {
        ForkHall hall = Stores.mergeableAt(59);
        CHECK.same("the sixtieth commit", hall.merge(1), 59);
        hall.reset(2);
        CHECK.same("the same one in the full store", hall.merge(1), 59);
        CHECK.same("is the head", hall.head(0), 59);
        CHECK.same("of sixty", hall.commits(), 60);
        CHECK.same("with its tree", State.workTree(hall), State.tree(hall, 59));
    }
}
