/** 'Terms', each sentence on rewriting. */
public final class TermsRewritingTest {
    private static final Check CHECK = new Check("TermsRewritingTest");
    private static final int NO = Stores.NO_FILE;

    public static void main(String[] args) {
        CHECK.sentence("The current branch is put onto another one: its commits, from its head back along first"
                + " parents, as far as they are no ancestors of the head of the other one, are applied one after the"
                + " other, the oldest one first, beginning with the head of the other one.");
        oldestFirst();
        howFarBack();
        alongFirstParents();
        CHECK.sentence("To apply a commit means to merge its tree, as theirs, with the tree so far, as ours, over the"
                + " tree of its first parent; if the result is not the same as the tree so far, it is committed with"
                + " the commit so far as its only parent.");
        overTheFirstParent();
        withoutResult();
        thereAlready();
        conflicts();
        room();
        CHECK.sentence("The last commit is the head of the current branch then.");
        theHeadThen();
        CHECK.end();
    }

    private static int[] files(int... contents) {
        return contents;
    }

    /** Branch 0 has 2 and then one commit for each of the trees, branch 1 has 3; both over 1. */
    private static ForkHall several(int[] base, int[] ours, int[] theirs, int[]... more) {
        ForkHall hall = Stores.diverged(base, ours, theirs);
        for (int[] tree : more) {
            Stores.commitTree(hall, tree);
        }
        return hall;
    }

    private static ForkHall three() {
        return several(files(1111), files(1112), files(1111, NO, NO, 9), files(1112, 5), files(1122, 5));
    }

    private static void oldestFirst() {
        ForkHall hall = three();
        CHECK.same("three are applied", hall.putOnto(1), 3);
        CHECK.same("the oldest one", State.tree(hall, 6) + " on " + State.parents(hall, 6),
                "1112,-,-,9,-,-,-,- on 3,-");
        CHECK.same("the next one", State.tree(hall, 7) + " on " + State.parents(hall, 7), "1112,5,-,9,-,-,-,- on 6,-");
        CHECK.same("the last one", State.tree(hall, 8) + " on " + State.parents(hall, 8), "1122,5,-,9,-,-,-,- on 7,-");
        CHECK.same("nine commits", hall.commits(), 9);
        ForkHall one = Stores.mergeableAt(4);
        CHECK.same("a single one", one.putOnto(1), 1);
        CHECK.same("has one commit", State.parents(one, 4), "3,-");
        ForkHall nothing = Stores.divergedFromNothing(files(1111), files(NO, 2222));
        CHECK.same("with commit 0 behind both", nothing.putOnto(1), 1);
        CHECK.same("both files", State.workTree(nothing), "1111,2222,-,-,-,-,-,-");
    }

    private static void howFarBack() {
        ForkHall all = Stores.full();
        all.checkOut(1);
        all.reset(0);
        all.checkOut(0);
        CHECK.same("all 59 onto commit 0, in the full store", all.putOnto(1), 59);
        CHECK.same("are there already", all.commits(), 60);
        CHECK.same("and end at the same head", all.head(0), 59);
        ForkHall most = Stores.full();
        CHECK.same("58 onto commit 1", most.putOnto(1), 58);
        CHECK.same("39 onto commit 20", most.putOnto(2), 39);
        CHECK.refuses("none onto the head itself", IllegalStateException.class, Stores::full, x -> x.putOnto(4));
        CHECK.refuses("none onto its own branch", IllegalStateException.class, Stores::full, x -> x.putOnto(0));
        CHECK.refuses("none onto what follows", IllegalStateException.class, () -> {
            ForkHall hall = Stores.full();
            hall.checkOut(1);
            return hall;
        }, x -> x.putOnto(0));
        CHECK.refuses("none in a new object", IllegalStateException.class, ForkHall::new, x -> x.putOnto(0));
        ForkHall last = Stores.full();
        last.checkOut(3);
        last.reset(58);
        last.checkOut(0);
        CHECK.same("one onto the parent", last.putOnto(3), 1);
        CHECK.same("is the head as it was", last.head(0), 59);
    }

    private static void alongFirstParents() {
        ForkHall hall = Stores.mergeableAt(5);
        hall.merge(1);
        hall.branch(2);
        hall.checkOut(2);
        hall.reset(1);
        Stores.commitTree(hall, 1111, 5679);
        hall.checkOut(0);
        CHECK.same("a merge and its first parent", hall.putOnto(2), 2);
        CHECK.same("the first parent's change", State.tree(hall, 7), "1112,5679,2222,-,-,-,-,-");
        CHECK.same("and what the merge brought", State.tree(hall, 8), "1112,5679,2222,-,-,-,-,5004");
        CHECK.same("the merge has one parent now", State.parents(hall, 8), "7,-");
        ForkHall through = Stores.mergeableAt(5);
        through.merge(1);
        CHECK.same("a merge onto its second parent", through.putOnto(1), 2);
        CHECK.same("leaves the one commit", through.head(0), 6);
        CHECK.same("on that", State.parents(through, 6), "4,-");
        ForkHall first = Stores.mergeableAt(5);
        first.branch(2);
        first.merge(1);
        CHECK.same("a merge onto its first parent", first.putOnto(2), 1);
        CHECK.same("is the merged tree", State.tree(first, 6), "1112,5678,2222,-,-,-,-,5004");
        CHECK.same("on the first parent alone", State.parents(first, 6), "2,-");
    }

    /** Branch 0 has a move and then a change of the moved file. */
    private static void overTheFirstParent() {
        ForkHall hall = several(files(1111, 2222), files(NO, 2222, 1111), files(9111, 2222), files(NO, 2222, 1119));
        CHECK.same("a move and a line", hall.putOnto(1), 2);
        CHECK.same("the move, with their line", State.tree(hall, 5), "-,2222,9111,-,-,-,-,-");
        CHECK.same("the line of the moved file", State.tree(hall, 6), "-,2222,9119,-,-,-,-,-");
        ForkHall taken = several(files(1111), files(1112), files(1111, 5), files(1111));
        CHECK.same("a change and its taking back", taken.putOnto(1), 2);
        CHECK.same("are two commits", taken.commits(), 7);
        CHECK.same("the change", State.tree(taken, 5), "1112,5,-,-,-,-,-,-");
        CHECK.same("the taking back", State.tree(taken, 6), "1111,5,-,-,-,-,-,-");
        ForkHall erased = several(files(1111, 2222), files(NO, 2222), files(1111, 2223), files());
        CHECK.same("a file that is changed otherwise is not erased", Check.toldBy(() -> erased.putOnto(1)),
                Check.UNSUPPORTED);
        ForkHall both = several(files(1111, 2222), files(NO, 2222), files(NO, 2222, 3), files());
        CHECK.same("a file erased by both, and another one", both.putOnto(1), 2);
        CHECK.same("one commit of two", State.parents(both, 5), "3,-");
        CHECK.same("with the other one's file alone", State.workTree(both), "-,-,3,-,-,-,-,-");
    }

    private static void applied(String what, ForkHall hall, int applied, int made, String tree) {
        int before = hall.commits();
        CHECK.same(what + ": applied", hall.putOnto(1), applied);
        CHECK.same(what + ": new commits", hall.commits() - before, made);
        CHECK.same(what + ": the tree", State.workTree(hall), tree);
        CHECK.same(what + ": no changes", hall.changedPaths(), 0);
    }

    private static void withoutResult() {
        ForkHall one = several(files(1111), files(1112), files(1112, 7));
        applied("a single one without a result", one, 1, 0, "1112,7,-,-,-,-,-,-");
        CHECK.same("the head is the other one's", one.head(0), 3);
        ForkHall all = several(files(1111), files(1112), files(1122, 7), files(1122));
        applied("two without a result", all, 2, 0, "1122,7,-,-,-,-,-,-");
        CHECK.same("the head is the other one's again", all.head(0), 3);
        ForkHall first = several(files(1111), files(1112), files(1112, 7), files(1122), files(1222));
        applied("the first one without a result", first, 3, 2, "1222,7,-,-,-,-,-,-");
        CHECK.same("the next one follows the other head", State.parents(first, 6), "3,-");
        ForkHall middle = several(files(1111), files(2111), files(1112, 7), files(2112), files(2212));
        applied("the middle one without a result", middle, 3, 2, "2212,7,-,-,-,-,-,-");
        CHECK.same("the last one follows the first one", State.parents(middle, 7), "6,-");
        ForkHall last = several(files(1111), files(2111), files(1112, 7), files(2211), files(2212));
        applied("the last one without a result", last, 3, 2, "2212,7,-,-,-,-,-,-");
        CHECK.same("the middle one is the head", last.head(0), 7);
        ForkHall full = several(files(1111), files(1112), files(1112, 7));
        full.checkOut(1);
        Stores.fillTo(full, 60);
        full.checkOut(0);
        applied("without a result, in the full store", full, 1, 0, "1112,7,-,-,-,-,-,5059");
        ForkHall merge = Stores.diverged(files(1111), files(1112, 7), files(1112));
        merge.branch(2);
        merge.merge(1);
        CHECK.same("a merge with our own tree onto its first parent", merge.putOnto(2), 1);
        CHECK.same("has no result", merge.head(0), 2);
    }

    private static void thereAlready() {
        ForkHall hall = three();
        hall.putOnto(1);
        hall.reset(5);
        applied("the same again", hall, 3, 0, "1122,5,-,9,-,-,-,-");
        CHECK.same("the same head", hall.head(0), 8);
        hall.reset(4);
        applied("a part of the same again", hall, 2, 0, "1112,5,-,9,-,-,-,-");
        CHECK.same("the head of the part", hall.head(0), 7);
        ForkHall more = three();
        more.putOnto(1);
        more.reset(5);
        more.write(7, 7777);
        more.commit();
        applied("one more than before", more, 4, 1, "1122,5,-,9,-,-,-,7777");
        CHECK.same("follows what is there", State.parents(more, 10), "8,-");
    }

    private static void conflicts() {
        CHECK.refuses("in the only one", UnsupportedOperationException.class,
                () -> several(files(1111), files(1112), files(1113)), x -> x.putOnto(1));
        CHECK.refuses("in the first one", UnsupportedOperationException.class,
                () -> several(files(1111), files(1112), files(1113), files(1122), files(1222)), x -> x.putOnto(1));
        CHECK.refuses("in the middle one", UnsupportedOperationException.class,
                () -> several(files(1111), files(1112), files(2111), files(3112), files(3122)), x -> x.putOnto(1));
        CHECK.refuses("in the last one", UnsupportedOperationException.class,
                () -> several(files(1111), files(1112), files(2111), files(1122), files(3122)), x -> x.putOnto(1));
        CHECK.refuses("in one that is taken back later", UnsupportedOperationException.class,
                () -> several(files(1111), files(1112), files(1113), files(1111)), x -> x.putOnto(1));
        CHECK.refuses("of paths", UnsupportedOperationException.class,
                () -> several(files(1111), files(1111, 5), files(1111, 6), files(1112, 5)), x -> x.putOnto(1));
        ForkHall hall = several(files(1111), files(1112), files(2111), files(1122), files(3122));
        Check.thrownBy(() -> hall.putOnto(1));
        hall.write(7, 7777);
        CHECK.same("the next commit has the next number", hall.commit(), 6);
        CHECK.same("its own tree", State.tree(hall, 6), "3122,-,-,-,-,-,-,7777");
        CHECK.same("and its own parent", State.parents(hall, 6), "5,-");
    }

    private static ForkHall twoAt(int commits) {
        ForkHall hall = Stores.mergeableAt(commits - 1);
        hall.write(3, 3333);
        hall.commit();
        return hall;
    }

    private static void room() {
        CHECK.tells("room for two", () -> twoAt(58), x -> x.putOnto(1) + " " + x.commits(), "2 60");
        CHECK.refuses("room for one of two", UnsupportedOperationException.class, () -> twoAt(59), x -> x.putOnto(1));
        CHECK.refuses("room for none", UnsupportedOperationException.class, () -> twoAt(60), x -> x.putOnto(1));
        ForkHall given = twoAt(59);
        Check.thrownBy(() -> given.putOnto(1));
        given.write(4, 4444);
        CHECK.same("the room is there still", given.commit(), 59);
        ForkHall old = twoAt(58);
        old.putOnto(1);
        old.reset(57);
        CHECK.same("what is there needs none", old.putOnto(1), 2);
        CHECK.same("and is the head", old.head(0), 59);
        CHECK.refuses("what is there, and then one with no room", UnsupportedOperationException.class,
                TermsRewritingTest::twoThereAndOneMore, x -> x.putOnto(1));
    }

    /** Branch 0 has three commits, two of which were put onto branch 1 before; sixty are there. */
    private static ForkHall twoThereAndOneMore() {
        ForkHall hall = twoAt(57);
        hall.putOnto(1);
        hall.reset(56);
        hall.write(4, 4444);
        hall.commit();
        return hall;
    }

    private static void theHeadThen() {
        ForkHall hall = three();
        hall.branch(2);
        hall.putOnto(1);
        CHECK.same("the head of the current branch", hall.head(0), 8);
        CHECK.same("the head of the other one", hall.head(1), 3);
        CHECK.same("the head of a third one", hall.head(2), 5);
        CHECK.same("the current branch", hall.currentBranch(), 0);
        CHECK.same("the work tree", State.workTree(hall), State.tree(hall, 8));
        CHECK.same("the old commits", State.tree(hall, 5) + " on " + State.parents(hall, 5),
                "1122,5,-,-,-,-,-,- on 4,-");
        CHECK.same("the contents packed", hall.packed(), 5);
        CHECK.refuses("once more: nothing to put", IllegalStateException.class, () -> {
            ForkHall put = three();
            put.putOnto(1);
            put.checkOut(1);
            return put;
        }, x -> x.putOnto(0));
    }
}
