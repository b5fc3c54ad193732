/** 'Terms', each sentence on commits. */
public final class TermsCommitsTest {
    private static final Check CHECK = new Check("TermsCommitsTest");
    private static final int NO = Stores.NO_FILE;
    private static final String EMPTY = "-,-,-,-,-,-,-,-";

    public static void main(String[] args) {
        CHECK.sentence("A commit has a tree, and no parents, a first parent, or a first and a second one.");
        parents();
        CHECK.sentence("The commits have the numbers 0, 1, 2 and so on in the order in which they were made; there are"
                + " at most 60.");
        numbers();
        sixtiethCommit();
        CHECK.sentence("Commit 0 has an empty tree and no parents, and is there from the beginning.");
        commitZero();
        CHECK.sentence("When a commit is made with the same tree and the same parents, in their order, as one that is"
                + " there, it is that one, and no new one.");
        sameByCommit();
        sameByMerge();
        sameByPutOnto();
        notTheSame();
        sameInTheFullStore();
        CHECK.sentence("A commit is an ancestor of another one if it is that one itself, or an ancestor of one of its"
                + " parents.");
        ancestors();
        CHECK.sentence("The generation of commit 0 is 0, that of any other commit is greater by 1 than the greatest"
                + " generation of its parents.");
        generations();
        CHECK.end();
    }

    /** 4 merges 2 and 3, which both follow 1. */
    private static ForkHall merged() {
        ForkHall hall = Stores.diverged(Stores.files(1111), Stores.files(1111, 2222), Stores.files(1111, NO, 3333));
        hall.merge(1);
        return hall;
    }

    private static void parents() {
        CHECK.same("no parents", State.parents(merged(), 0), "-,-");
        CHECK.same("a first parent", State.parents(merged(), 1), "0,-");
        CHECK.same("a first and a second parent", State.parents(merged(), 4), "2,3");
        CHECK.same("a tree", State.tree(merged(), 4), "1111,2222,3333,-,-,-,-,-");
        CHECK.same("an empty tree", State.tree(Stores.chain(Stores.files(1), Stores.files()), 2), EMPTY);
        CHECK.same("a full tree", State.tree(Stores.full(), 1), "1000,2000,3000,4000,5000,6000,7000,8000");
    }

    private static void numbers() {
        ForkHall hall = new ForkHall();
        for (int made = 1; made < 60; made++) {
            hall.write(made % 8, made);
            CHECK.same("commit " + made, hall.commit(), made);
            CHECK.same("commits with " + made, hall.commits(), made + 1);
        }
        for (int commit = 1; commit < 60; commit++) {
            CHECK.same("content in " + commit, hall.contentIn(commit, commit % 8), commit);
        }
        CHECK.tells("a rewriting makes the oldest first", () -> {
            ForkHall rewritten = Stores.mergeableAt(4);
            rewritten.write(3, 3333);
            rewritten.commit();
            rewritten.putOnto(1);
            return rewritten;
        }, x -> State.parents(x, 5) + " " + State.parents(x, 6), "3,- 5,-");
    }

    private static ForkHall linear(int commits) {
        return Stores.fillTo(new ForkHall(), commits);
    }

    private static void sixtiethCommit() {
        CHECK.tells("the 60th by commit", () -> Stores.withChanges(linear(59)), ForkHall::commit, 59);
        CHECK.refuses("the 61st by commit", IllegalStateException.class, () -> Stores.withChanges(linear(60)),
                ForkHall::commit);
        CHECK.tells("the 60th by merge", () -> Stores.mergeableAt(59), x -> x.merge(1), 59);
        CHECK.refuses("the 61st by merge", UnsupportedOperationException.class, () -> Stores.mergeableAt(60),
                x -> x.merge(1));
        CHECK.tells("the 60th by putOnto", () -> Stores.mergeableAt(59), x -> x.putOnto(1), 1);
        CHECK.refuses("the 61st by putOnto", UnsupportedOperationException.class, () -> Stores.mergeableAt(60),
                x -> x.putOnto(1));
        CHECK.answers("sixty are there", Stores::full, ForkHall::commits, 60);
        CHECK.answers("the last of them is 59", Stores::full, x -> x.generation(59), 59);
        CHECK.refuses("there is no 60", IndexOutOfBoundsException.class, Stores::full, x -> x.generation(60));
        ForkHall hall = Stores.fullWithChanges();
        Check.thrownBy(hall::commit);
        hall.reset(20);
        CHECK.same("no refused commit frees room", Check.thrownBy(() -> {
            hall.write(0, 4711);
            hall.commit();
        }), Check.STATE);
        CHECK.same("and sixty stay", hall.commits(), 60);
    }

    private static void commitZero() {
        CHECK.same("its tree at first", State.tree(new ForkHall(), 0), EMPTY);
        CHECK.same("its parents at first", State.parents(new ForkHall(), 0), "-,-");
        CHECK.answers("one commit at first", ForkHall::new, ForkHall::commits, 1);
        CHECK.same("its tree in the full store", State.tree(Stores.full(), 0), EMPTY);
        CHECK.same("its parents in the full store", State.parents(Stores.full(), 0), "-,-");
        ForkHall hall = new ForkHall();
        hall.write(0, 1);
        CHECK.same("writing leaves it empty", State.tree(hall, 0), EMPTY);
        hall.commit();
        hall.reset(0);
        CHECK.same("a branch may go back to it", hall.head(0), 0);
        CHECK.same("and has an empty work tree then", State.workTree(hall), EMPTY);
    }

    private static void sameByCommit() {
        ForkHall hall = Stores.chain(Stores.files(1), Stores.files(2));
        hall.reset(1);
        hall.write(0, 2);
        CHECK.same("the same tree on the same parent", hall.commit(), 2);
        CHECK.same("no new one", hall.commits(), 3);
        CHECK.same("it is the head", hall.head(0), 2);
        CHECK.same("with no changes", hall.changedPaths(), 0);
        hall.branch(1);
        hall.checkOut(1);
        hall.reset(0);
        hall.write(0, 1);
        CHECK.same("on another branch, on commit 0", hall.commit(), 1);
        CHECK.same("it is the head there", hall.head(1), 1);
        CHECK.same("and not on the first branch", hall.head(0), 2);
        CHECK.same("no new one there", hall.commits(), 3);
        CHECK.same("nothing is packed twice", hall.packed(), 2);
        hall.write(7, 7);
        CHECK.same("the next new one has the next number", hall.commit(), 3);
    }

    private static void sameByMerge() {
        ForkHall hall = merged();
        hall.reset(2);
        CHECK.same("the same merge", hall.merge(1), 4);
        CHECK.same("is no new one", hall.commits(), 5);
        hall.branch(2);
        hall.checkOut(2);
        hall.reset(2);
        CHECK.same("from another branch", hall.merge(1), 4);
        CHECK.same("neither", hall.commits(), 5);
    }

    private static void sameByPutOnto() {
        ForkHall hall = Stores.diverged(Stores.files(1111), Stores.files(1112), Stores.files(1111, 2222));
        hall.checkOut(1);
        hall.branch(2);
        hall.checkOut(2);
        CHECK.same("a commit by hand", Stores.commitTree(hall, 1112, 2222), 4);
        hall.checkOut(0);
        CHECK.same("the rewriting of one", hall.putOnto(1), 1);
        CHECK.same("is that commit", hall.head(0), 4);
        CHECK.same("and no new one", hall.commits(), 5);
        hall.reset(3);
        hall.write(0, 1112);
        CHECK.same("and by hand again", hall.commit(), 4);
    }

    private static void notTheSame() {
        ForkHall hall = merged();
        hall.checkOut(1);
        CHECK.same("the parents in the other order", hall.merge(0), 4);
        hall.reset(3);
        hall.checkOut(0);
        hall.reset(2);
        hall.checkOut(1);
        CHECK.same("the same tree, the parents in the other order", hall.merge(0), 5);
        CHECK.same("it is a new one", State.parents(hall, 5), "3,2");
        CHECK.same("with the same tree", State.tree(hall, 5), State.tree(hall, 4));
        hall.reset(2);
        hall.write(2, 3333);
        CHECK.same("the same tree with the first parent alone", hall.commit(), 6);
        CHECK.same("it is a new one, too", State.parents(hall, 6), "2,-");
        hall.reset(3);
        hall.write(1, 2222);
        CHECK.same("the same tree with the second parent alone", hall.commit(), 7);
        CHECK.same("as well", State.parents(hall, 7), "3,-");
        hall.write(7, 7);
        hall.commit();
        hall.erase(7);
        CHECK.same("the same tree on another parent", hall.commit(), 9);
        hall.reset(1);
        hall.erase(0);
        CHECK.same("an empty tree on a parent is not commit 0", hall.commit(), 10);
        hall.write(3, 1111);
        hall.commit();
        hall.reset(10);
        hall.write(4, 1111);
        CHECK.same("the same content at another path", hall.commit(), 12);
    }

    private static void sameInTheFullStore() {
        ForkHall hall = Stores.full();
        hall.reset(19);
        hall.write(4, 5020);
        CHECK.same("a commit that is there", hall.commit(), 20);
        CHECK.same("is the head", hall.head(0), 20);
        hall.erase(0);
        CHECK.same("another one is refused", Check.thrownBy(hall::commit), Check.STATE);
        ForkHall mergeable = Stores.mergeableAt(59);
        mergeable.merge(1);
        mergeable.reset(2);
        CHECK.same("a merge that is there", mergeable.merge(1), 59);
        ForkHall putOn = Stores.mergeableAt(59);
        putOn.putOnto(1);
        putOn.reset(2);
        CHECK.same("a rewriting that is there", putOn.putOnto(1), 1);
        CHECK.same("has its head", putOn.head(0), 59);
        CHECK.same("and sixty commits", putOn.commits(), 60);
    }

    private static void ancestor(ForkHall hall, int commit, int other, boolean due) {
        CHECK.same(commit + " of " + other, hall.isAncestor(commit, other), due);
        CHECK.same(commit + " of " + other + " by walking", hall.isAncestorByWalking(commit, other), due);
    }

    private static void ancestors() {
        ForkHall hall = Stores.full();
        for (int commit = 0; commit < 60; commit++) {
            ancestor(hall, commit, commit, true);
        }
        ancestor(hall, 0, 59, true);
        ancestor(hall, 59, 0, false);
        ancestor(hall, 58, 59, true);
        ancestor(hall, 59, 58, false);
        ancestor(hall, 31, 32, true);
        ancestor(hall, 32, 31, false);
        ancestor(new ForkHall(), 0, 0, true);
        ForkHall merged = merged();
        ancestor(merged, 2, 4, true);
        ancestor(merged, 3, 4, true);
        ancestor(merged, 1, 4, true);
        ancestor(merged, 2, 3, false);
        ancestor(merged, 3, 2, false);
        ancestor(merged, 4, 3, false);
        merged.erase(0);
        merged.commit();
        ancestor(merged, 3, 5, true);
        merged.checkOut(1);
        merged.erase(0);
        merged.commit();
        ancestor(merged, 4, 6, false);
        ancestor(merged, 2, 6, false);
        ancestor(merged, 5, 6, false);
    }

    private static void generations() {
        CHECK.answers("of commit 0", ForkHall::new, x -> x.generation(0), 0);
        ForkHall full = Stores.full();
        for (int commit = 0; commit < 60; commit++) {
            CHECK.same("of " + commit + " in a line", full.generation(commit), commit);
        }
        CHECK.answers("of a merge of equal ones", TermsCommitsTest::merged, x -> x.generation(4), 3);
        ForkHall ours = Stores.mergeableAt(4);
        ours.write(3, 3333);
        ours.commit();
        ours.write(3, 4444);
        ours.commit();
        CHECK.same("of a merge with a greater first parent", ours.generation(ours.merge(1)), 5);
        ForkHall theirs = Stores.mergeableAt(7);
        CHECK.same("of a merge with a greater second parent", theirs.generation(theirs.merge(1)), 6);
        ForkHall put = Stores.mergeableAt(7);
        put.putOnto(1);
        CHECK.same("of a rewritten commit", put.generation(7), 6);
    }
}
