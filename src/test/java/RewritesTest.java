import java.util.NoSuchElementException;

/** Promise 12: putting the current branch onto another one. */
public final class RewritesTest {
    private static final Check CHECK = new Check("RewritesTest");
    private static final int NO = Stores.NO_FILE;

    public static void main(String[] args) {
        onto();
        forward();
        withoutResult();
        commitsThatAreThere();
        overFirstParents();
        conflictOfOneStep();
        refusals();
        limit();
        CHECK.end();
    }

    /** Branch 0 has 1 - 2 - 4 - 5, branch 1 has 1 - 3; branch 0 is the current one. */
    private static ForkHall three() {
        ForkHall hall = Stores.diverged(new int[] {1111}, new int[] {1112}, new int[] {1111, NO, NO, 9});
        Stores.commitTree(hall, 1112, 5);
        Stores.commitTree(hall, NO, 5, 1112);
        return hall;
    }

    private static ForkHall threeWithChanges() {
        ForkHall hall = three();
        hall.write(6, 6);
        return hall;
    }

    private static void onto() {
        ForkHall hall = three();
        CHECK.same("three are applied", hall.putOnto(1), 3);
        CHECK.same("three new commits", hall.commits(), 9);
        CHECK.same("the oldest first", State.tree(hall, 6), "1112,-,-,9,-,-,-,-");
        CHECK.same("on the other head", State.parents(hall, 6), "3,-");
        CHECK.same("then the next one", State.tree(hall, 7), "1112,5,-,9,-,-,-,-");
        CHECK.same("on the one before", State.parents(hall, 7), "6,-");
        CHECK.same("then the last one, with its move", State.tree(hall, 8), "-,5,1112,9,-,-,-,-");
        CHECK.same("on that", State.parents(hall, 8), "7,-");
        CHECK.same("the last is the head", hall.head(0), 8);
        CHECK.same("the other head stays", hall.head(1), 3);
        CHECK.same("the current branch stays", hall.currentBranch(), 0);
        CHECK.same("the work tree", State.workTree(hall), "-,5,1112,9,-,-,-,-");
        CHECK.same("the old commits stay", State.tree(hall, 5), "-,5,1112,-,-,-,-,-");
        CHECK.same("nothing new is packed", hall.packed(), 4);
    }

    /** The other head is an ancestor: what is not its own is applied again, to commits that are there. */
    private static void forward() {
        ForkHall hall = three();
        hall.branch(2);
        hall.checkOut(2);
        hall.reset(2);
        hall.checkOut(0);
        CHECK.same("the two commits after 2", hall.putOnto(2), 2);
        CHECK.same("come out as they are", hall.head(0), 5);
        CHECK.same("and none is new", hall.commits(), 6);
    }

    private static void withoutResult() {
        ForkHall hall = Stores.diverged(new int[] {1111}, new int[] {1112}, new int[] {1112, 7});
        CHECK.same("a commit without a result counts", hall.putOnto(1), 1);
        CHECK.same("but is none", hall.commits(), 4);
        CHECK.same("the head is the other one's", hall.head(0), 3);
        CHECK.same("as is the tree", State.workTree(hall), "1112,7,-,-,-,-,-,-");
        ForkHall more = Stores.diverged(new int[] {1111}, new int[] {1112}, new int[] {1112, 7});
        Stores.commitTree(more, 1122);
        Stores.commitTree(more, 1222);
        CHECK.same("the first of three has no result", more.putOnto(1), 3);
        CHECK.same("two new commits", more.commits(), 8);
        CHECK.same("the first of them on the other head", State.parents(more, 6), "3,-");
        CHECK.same("the head", State.tree(more, more.head(0)), "1222,7,-,-,-,-,-,-");
    }

    private static void commitsThatAreThere() {
        ForkHall hall = three();
        hall.putOnto(1);
        hall.reset(5);
        CHECK.same("put onto it again", hall.putOnto(1), 3);
        CHECK.same("the same commits", hall.head(0), 8);
        CHECK.same("none is new", hall.commits(), 9);
        hall.reset(2);
        CHECK.same("one commit after three", hall.putOnto(1), 1);
        CHECK.same("and no more than that", hall.head(0), 6);
    }

    /** A merge is applied as its change over its first parent, and only first parents are followed. */
    private static void overFirstParents() {
        ForkHall hall = Stores.diverged(new int[] {1111}, new int[] {1111, 2222}, new int[] {1111, NO, 3333});
        hall.merge(1);
        hall.checkOut(1);
        hall.reset(1);
        Stores.commitTree(hall, 1112);
        hall.checkOut(0);
        CHECK.same("the merge and the commit before it", hall.putOnto(1), 2);
        CHECK.same("the commit", State.tree(hall, 6), "1112,2222,-,-,-,-,-,-");
        CHECK.same("the merge, of one parent now", State.parents(hall, 7), "6,-");
        CHECK.same("has what it brought", State.tree(hall, 7), "1112,2222,3333,-,-,-,-,-");
        ForkHall part = Stores.diverged(new int[] {1111}, new int[] {1111, 2222}, new int[] {1111, NO, 3333});
        part.merge(1);
        part.checkOut(1);
        Stores.commitTree(part, 1112, NO, 3333);
        part.checkOut(0);
        CHECK.same("a second parent that is there already", part.putOnto(1), 2);
        CHECK.same("brings nothing more", part.head(0), 6);
        CHECK.same("the tree", State.tree(part, 6), "1112,2222,3333,-,-,-,-,-");
    }

    private static ForkHall lateConflict() {
        ForkHall hall = Stores.diverged(new int[] {1111}, new int[] {1111, 5}, new int[] {2111});
        Stores.commitTree(hall, 1111, 5, 6);
        Stores.commitTree(hall, 3111, 5, 6);
        return hall;
    }

    private static void conflictOfOneStep() {
        CHECK.refuses("a conflict in the first step", UnsupportedOperationException.class,
                () -> Stores.diverged(new int[] {1111}, new int[] {1112}, new int[] {1113}), x -> x.putOnto(1));
        CHECK.refuses("a conflict in the last step takes all back", UnsupportedOperationException.class,
                RewritesTest::lateConflict, x -> x.putOnto(1));
        ForkHall hall = lateConflict();
        Check.thrownBy(() -> hall.putOnto(1));
        hall.write(7, 7777);
        CHECK.same("a later commit has the next number", hall.commit(), 6);
        CHECK.same("and its own tree", State.tree(hall, 6), "3111,5,6,-,-,-,-,7777");
        CHECK.same("and parent", State.parents(hall, 6), "5,-");
        CHECK.same("and generation", hall.generation(6), 5);
        CHECK.same("and ancestors", hall.isAncestor(3, 6), false);
        CHECK.same("packs know of no other", hall.packed(), 6);
        ForkHall back = Stores.diverged(new int[] {1111}, new int[] {1112}, new int[] {1113});
        Stores.commitTree(back, 1111);
        CHECK.same("no conflict of both heads", back.conflicts(4, 3), 0);
        CHECK.same("yet one of a step", Check.thrownBy(() -> back.putOnto(1)),
                UnsupportedOperationException.class.getName());
    }

    private static void refusals() {
        for (int branch : new int[] {-1, 5, Integer.MIN_VALUE, Integer.MAX_VALUE}) {
            CHECK.refuses("put onto branch " + branch, IndexOutOfBoundsException.class,
                    RewritesTest::threeWithChanges, x -> x.putOnto(branch));
        }
        CHECK.refuses("put onto no branch", NoSuchElementException.class, RewritesTest::threeWithChanges,
                x -> x.putOnto(4));
        CHECK.refuses("put onto with changes", IllegalStateException.class, RewritesTest::threeWithChanges,
                x -> x.putOnto(1));
        CHECK.refuses("put onto itself", IllegalStateException.class, RewritesTest::three, x -> x.putOnto(0));
        CHECK.refuses("put onto an equal head", IllegalStateException.class, () -> Stores.forked(1, 2),
                x -> x.putOnto(1));
        CHECK.refuses("put onto a descendant", IllegalStateException.class, () -> {
            ForkHall hall = Stores.forked(1111);
            hall.checkOut(1);
            Stores.commitTree(hall, 1112);
            hall.checkOut(0);
            return hall;
        }, x -> x.putOnto(1));
        CHECK.refuses("a conflict with changes", IllegalStateException.class, () -> {
            ForkHall hall = lateConflict();
            hall.write(6, 6);
            return hall;
        }, x -> x.putOnto(1));
    }

    /** Branch 0 has two commits to apply; branch 1 goes on to so many commits in all. */
    private static ForkHall twoAt(int commits) {
        ForkHall hall = Stores.diverged(new int[] {1111}, new int[] {1112}, new int[] {2111});
        Stores.commitTree(hall, 1122);
        hall.checkOut(1);
        Stores.fillTo(hall, commits);
        hall.checkOut(0);
        return hall;
    }

    private static void limit() {
        CHECK.answers("room for both", () -> twoAt(58), x -> x.putOnto(1), 2);
        CHECK.refuses("room for one", UnsupportedOperationException.class, () -> twoAt(59), x -> x.putOnto(1));
        CHECK.refuses("room for none", UnsupportedOperationException.class, () -> twoAt(60), x -> x.putOnto(1));
        ForkHall hall = three();
        hall.putOnto(1);
        Stores.fillTo(hall, 60);
        hall.reset(5);
        CHECK.same("commits that are there need no room", hall.putOnto(1), 3);
        CHECK.same("the head", hall.head(0), 8);
        ForkHall taken = twoAt(59);
        Check.thrownBy(() -> taken.putOnto(1));
        taken.write(6, 4242);
        CHECK.same("the room is given back", taken.commit(), 59);
        CHECK.same("for another tree", State.tree(taken, 59), "1122,-,-,-,-,-,4242,-");
    }
}
