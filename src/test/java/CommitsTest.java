import java.util.NoSuchElementException;

/** Promises 7 to 10 and 13 to 15: commits and branches, without merging and rewriting. */
public final class CommitsTest {
    private static final Check CHECK = new Check("CommitsTest");
    private static final int[] NO_BRANCH_NUMBERS = {-1, 5, 6, Integer.MIN_VALUE, Integer.MAX_VALUE};

    public static void main(String[] args) {
        commit();
        commitThatIsThere();
        commitAtTheLimit();
        branch();
        checkOut();
        reset();
        currentBranch();
        head();
        commits();
        CHECK.end();
    }

    /** Branch 0 has commit 1, branch 3 is current with commit 2. */
    private static ForkHall onThree() {
        ForkHall hall = new ForkHall();
        hall.write(0, 1234);
        hall.commit();
        hall.branch(3);
        hall.checkOut(3);
        hall.write(1, 5678);
        hall.commit();
        return hall;
    }

    private static ForkHall onThreeWithChanges() {
        ForkHall hall = onThree();
        hall.erase(0);
        return hall;
    }

    private static ForkHall full() {
        return Stores.fillTo(onThree(), 60);
    }

    private static ForkHall fullWithChanges() {
        ForkHall hall = full();
        hall.write(6, 6);
        return hall;
    }

    private static void commit() {
        ForkHall hall = onThree();
        hall.move(0, 4);
        CHECK.same("the number of the commit", hall.commit(), 3);
        CHECK.same("its tree", State.tree(hall, 3), "-,5678,-,-,1234,-,-,-");
        CHECK.same("its parents", State.parents(hall, 3), "2,-");
        CHECK.same("it is the head of the current branch", hall.head(3), 3);
        CHECK.same("other branches stay", hall.head(0), 1);
        CHECK.same("no changes are left", hall.changedPaths(), 0);
        CHECK.same("the tree before stays", State.tree(hall, 2), "1234,5678,-,-,-,-,-,-");
        hall.write(0, 1);
        CHECK.same("writing does not touch the commit", State.tree(hall, 3), "-,5678,-,-,1234,-,-,-");
        CHECK.refuses("commit on a new object", IllegalStateException.class, ForkHall::new, ForkHall::commit);
        CHECK.refuses("commit without changes", IllegalStateException.class, CommitsTest::onThree,
                ForkHall::commit);
        ForkHall emptied = onThree();
        emptied.erase(0);
        emptied.erase(1);
        CHECK.same("an empty tree is a commit of its own", emptied.commit(), 3);
        CHECK.same("with no files", State.tree(emptied, 3), "-,-,-,-,-,-,-,-");
    }

    private static void commitThatIsThere() {
        ForkHall hall = onThree();
        hall.reset(1);
        hall.write(1, 5678);
        CHECK.same("the same tree on the same parent", hall.commit(), 2);
        CHECK.same("no new commit", hall.commits(), 3);
        CHECK.same("it is the head", hall.head(3), 2);
        hall.reset(1);
        hall.write(1, 5679);
        CHECK.same("another tree on the same parent", hall.commit(), 3);
        hall.write(1, 5678);
        CHECK.same("the same tree on another parent", hall.commit(), 4);
        CHECK.same("the other branch", hall.checkOut(0), 1);
        hall.write(1, 5678);
        CHECK.same("the same commit from another branch", hall.commit(), 2);
        CHECK.same("five in all", hall.commits(), 5);
    }

    private static void commitAtTheLimit() {
        CHECK.answers("sixty commits", CommitsTest::full, ForkHall::commits, 60);
        CHECK.answers("the last of them is the head", CommitsTest::full, x -> x.head(3), 59);
        CHECK.refuses("a 61st commit", IllegalStateException.class, CommitsTest::fullWithChanges,
                ForkHall::commit);
        ForkHall hall = full();
        hall.reset(1);
        hall.write(1, 5678);
        CHECK.same("a commit that is there, at the limit", hall.commit(), 2);
        CHECK.same("becomes the head", hall.head(3), 2);
    }

    private static void branch() {
        ForkHall hall = onThree();
        CHECK.same("a branch has the current head", hall.branch(4), 2);
        CHECK.same("it is its head", hall.head(4), 2);
        CHECK.same("the current branch stays", hall.currentBranch(), 3);
        CHECK.same("a further one", hall.branch(1), 2);
        hall.write(5, 5);
        CHECK.same("a branch with changes in the work tree", hall.branch(2), 2);
        CHECK.same("which stay", hall.content(5), 5);
        for (int number : NO_BRANCH_NUMBERS) {
            CHECK.refuses("branch " + number, IndexOutOfBoundsException.class, CommitsTest::onThree,
                    x -> x.branch(number));
        }
        CHECK.refuses("branch that exists", IllegalStateException.class, CommitsTest::onThree, x -> x.branch(0));
        CHECK.refuses("branch that is current", IllegalStateException.class, CommitsTest::onThree,
                x -> x.branch(3));
        CHECK.refuses("branch 0 of a new object", IllegalStateException.class, ForkHall::new, x -> x.branch(0));
    }

    private static void checkOut() {
        ForkHall hall = onThree();
        CHECK.same("the head of the other branch", hall.checkOut(0), 1);
        CHECK.same("is the current one's", hall.currentBranch(), 0);
        CHECK.same("its tree is the work tree", State.workTree(hall), "1234,-,-,-,-,-,-,-");
        CHECK.same("and back", hall.checkOut(3), 2);
        CHECK.same("the tree there", State.workTree(hall), "1234,5678,-,-,-,-,-,-");
        CHECK.same("the current one again", hall.checkOut(3), 2);
        CHECK.same("stays current", hall.currentBranch(), 3);
        for (int number : NO_BRANCH_NUMBERS) {
            CHECK.refuses("check out " + number, IndexOutOfBoundsException.class,
                    CommitsTest::onThreeWithChanges, x -> x.checkOut(number));
        }
        CHECK.refuses("check out of no branch", NoSuchElementException.class, CommitsTest::onThreeWithChanges,
                x -> x.checkOut(1));
        CHECK.refuses("check out with changes", IllegalStateException.class, CommitsTest::onThreeWithChanges,
                x -> x.checkOut(0));
        CHECK.refuses("check out of the current one with changes", IllegalStateException.class,
                CommitsTest::onThreeWithChanges, x -> x.checkOut(3));
    }

    private static void reset() {
        ForkHall hall = onThreeWithChanges();
        CHECK.same("reset answers the head before", hall.reset(1), 2);
        CHECK.same("the new head", hall.head(3), 1);
        CHECK.same("the other branch stays", hall.head(0), 1);
        CHECK.same("the work tree, with changes lost", State.workTree(hall), "1234,-,-,-,-,-,-,-");
        CHECK.same("to commit 0", hall.reset(0), 1);
        CHECK.same("which is empty", State.workTree(hall), "-,-,-,-,-,-,-,-");
        CHECK.same("forward again", hall.reset(2), 0);
        CHECK.same("the tree there", State.workTree(hall), "1234,5678,-,-,-,-,-,-");
        CHECK.same("commits stay", hall.commits(), 3);
        hall.erase(0);
        CHECK.same("reset to the head itself", hall.reset(2), 2);
        CHECK.same("takes changes back", hall.changedPaths(), 0);
        for (int number : new int[] {-1, 3, 4, 59, 60, Integer.MIN_VALUE, Integer.MAX_VALUE}) {
            CHECK.refuses("reset to " + number, IndexOutOfBoundsException.class, CommitsTest::onThreeWithChanges,
                    x -> x.reset(number));
        }
        CHECK.refuses("reset to 60 of 60", IndexOutOfBoundsException.class, CommitsTest::full, x -> x.reset(60));
    }

    private static void currentBranch() {
        CHECK.answers("the current branch at first", ForkHall::new, ForkHall::currentBranch, 0);
        CHECK.answers("the current branch later", CommitsTest::onThree, ForkHall::currentBranch, 3);
    }

    private static void head() {
        CHECK.answers("head of branch 0 at first", ForkHall::new, x -> x.head(0), 0);
        CHECK.answers("head of a branch that is not current", CommitsTest::onThree, x -> x.head(0), 1);
        for (int number : NO_BRANCH_NUMBERS) {
            CHECK.refuses("head of " + number, IndexOutOfBoundsException.class, CommitsTest::onThree,
                    x -> x.head(number));
        }
        for (int number : new int[] {1, 2, 4}) {
            CHECK.refuses("head of no branch " + number, NoSuchElementException.class, CommitsTest::onThree,
                    x -> x.head(number));
        }
    }

    private static void commits() {
        CHECK.answers("commits at first", ForkHall::new, ForkHall::commits, 1);
        CHECK.answers("commits later", CommitsTest::onThree, ForkHall::commits, 3);
    }
}
