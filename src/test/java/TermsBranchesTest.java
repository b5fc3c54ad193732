import java.util.NoSuchElementException;

/** 'Terms', each sentence on branches and on bases. */
public final class TermsBranchesTest {
    private static final Check CHECK = new Check("TermsBranchesTest");
    private static final int NO = Stores.NO_FILE;
    private static final int[] NO_BRANCHES = {-1, 5, Integer.MIN_VALUE, Integer.MAX_VALUE};

    public static void main(String[] args) {
        CHECK.sentence("There are at most the branches 0 to 4; each one that exists has a commit as its head.");
        allFive();
        for (int branch : NO_BRANCHES) {
            outside(branch);
        }
        missing();
        CHECK.sentence("Branch 0 exists from the beginning, with commit 0 as its head, and is the current one.");
        branchZero();
        CHECK.sentence("The work tree has changes if it is not the same as the tree of the head of the current"
                + " branch.");
        changes();
        takenBack();
        againstTheCurrentHead();
        CHECK.sentence("The common ancestors of two commits are those that are ancestors of both.");
        commonAncestors();
        CHECK.sentence("A base of both is a common ancestor that is no ancestor of another common ancestor.");
        severalBases();
        CHECK.sentence("The best base is the base with the greatest number.");
        bestOfSeveral();
        CHECK.end();
    }

    private static void allFive() {
        ForkHall hall = new ForkHall();
        for (int branch = 1; branch < 5; branch++) {
            hall.write(0, branch);
            CHECK.same("commit " + branch, hall.commit(), branch);
            CHECK.same("branch " + branch, hall.branch(branch), branch);
        }
        for (int branch = 1; branch < 5; branch++) {
            CHECK.same("head of " + branch, hall.head(branch), branch);
            CHECK.same("check out of " + branch, hall.checkOut(branch), branch);
            CHECK.same(branch + " is current", hall.currentBranch(), branch);
            CHECK.same("its file", hall.content(0), branch);
        }
        CHECK.same("head of 0", hall.head(0), 4);
        for (int branch = 0; branch < 5; branch++) {
            int there = branch;
            CHECK.refuses("branch " + branch + " in the full store", IllegalStateException.class, Stores::full,
                    x -> x.branch(there));
        }
        ForkHall moved = Stores.full();
        moved.checkOut(2);
        moved.reset(3);
        CHECK.same("only the head of the current one is moved", heads(moved), "59 1 3 40 59 ");
    }

    private static String heads(ForkHall hall) {
        StringBuilder text = new StringBuilder();
        for (int branch = 0; branch < 5; branch++) {
            text.append(hall.head(branch)).append(' ');
        }
        return text.toString();
    }

    private static void outside(int branch) {
        CHECK.refuses("branch " + branch, IndexOutOfBoundsException.class, Stores::full, x -> x.branch(branch));
        CHECK.refuses("branch " + branch + " of a new object", IndexOutOfBoundsException.class, ForkHall::new,
                x -> x.branch(branch));
        CHECK.refuses("checkOut " + branch, IndexOutOfBoundsException.class, Stores::full, x -> x.checkOut(branch));
        CHECK.refuses("merge " + branch, IndexOutOfBoundsException.class, Stores::full, x -> x.merge(branch));
        CHECK.refuses("putOnto " + branch, IndexOutOfBoundsException.class, Stores::full, x -> x.putOnto(branch));
        CHECK.refuses("head " + branch, IndexOutOfBoundsException.class, Stores::full, x -> x.head(branch));
    }

    private static void missing() {
        for (int branch = 1; branch < 5; branch++) {
            int none = branch;
            CHECK.refuses("head of no branch " + branch, NoSuchElementException.class, ForkHall::new,
                    x -> x.head(none));
            CHECK.refuses("check out of no branch " + branch, NoSuchElementException.class, ForkHall::new,
                    x -> x.checkOut(none));
            CHECK.refuses("merge of no branch " + branch, NoSuchElementException.class, ForkHall::new,
                    x -> x.merge(none));
            CHECK.refuses("put onto no branch " + branch, NoSuchElementException.class, ForkHall::new,
                    x -> x.putOnto(none));
            CHECK.tells("branch " + branch + " of a new object", ForkHall::new, x -> x.branch(none), 0);
        }
    }

    private static void branchZero() {
        CHECK.answers("its head", ForkHall::new, x -> x.head(0), 0);
        CHECK.answers("it is current", ForkHall::new, ForkHall::currentBranch, 0);
        CHECK.answers("it can be checked out", ForkHall::new, x -> x.checkOut(0), 0);
        CHECK.refuses("it can't be made", IllegalStateException.class, ForkHall::new, x -> x.branch(0));
    }

    /** Branch 1 can be merged, put onto and checked out, if the work tree has no changes. */
    private static ForkHall open() {
        return Stores.diverged(Stores.files(1111, NO, NO, NO, NO, NO, NO, 7777),
                Stores.files(1112, NO, NO, NO, NO, NO, NO, 7777), Stores.files(1211, NO, NO, NO, NO, NO, NO, 7777));
    }

    private static void changed(String what, java.util.function.Consumer<ForkHall> change, int paths) {
        java.util.function.Supplier<ForkHall> maker = () -> {
            ForkHall hall = open();
            change.accept(hall);
            return hall;
        };
        CHECK.answers(what + ": changed paths", maker, ForkHall::changedPaths, paths);
        CHECK.tells(what + ": commit", maker, ForkHall::commit, 4);
        CHECK.refuses(what + ": checkOut", IllegalStateException.class, maker, x -> x.checkOut(1));
        CHECK.refuses(what + ": checkOut of itself", IllegalStateException.class, maker, x -> x.checkOut(0));
        CHECK.refuses(what + ": merge", IllegalStateException.class, maker, x -> x.merge(1));
        CHECK.refuses(what + ": putOnto", IllegalStateException.class, maker, x -> x.putOnto(1));
    }

    private static void changes() {
        changed("a new file at the last free path", x -> x.write(6, 1), 1);
        changed("one with the content 0", x -> x.write(1, 0), 1);
        changed("another content at the first path", x -> x.write(0, 1113), 1);
        changed("another content at the last path", x -> x.write(7, 0), 1);
        changed("an erased file at the first path", x -> x.erase(0), 1);
        changed("an erased file at the last path", x -> x.erase(7), 1);
        changed("a moved file", x -> x.move(7, 6), 2);
        changed("two files exchanged", x -> {
            x.move(0, 1);
            x.move(7, 0);
            x.move(1, 7);
        }, 2);
        changed("no files", x -> {
            x.erase(0);
            x.erase(7);
        }, 2);
        changed("all paths", x -> Stores.setWork(x, 1, 2, 3, 4, 5, 6, 7, 8), 8);
    }

    private static void unchanged(String what, java.util.function.Consumer<ForkHall> calls) {
        java.util.function.Supplier<ForkHall> maker = () -> {
            ForkHall hall = open();
            calls.accept(hall);
            return hall;
        };
        CHECK.answers(what + ": changed paths", maker, ForkHall::changedPaths, 0);
        CHECK.refuses(what + ": commit", IllegalStateException.class, maker, ForkHall::commit);
        CHECK.tells(what + ": checkOut", maker, x -> x.checkOut(1), 3);
        CHECK.tells(what + ": merge", maker, x -> x.merge(1), 4);
        CHECK.tells(what + ": putOnto", maker, x -> x.putOnto(1), 1);
    }

    private static void takenBack() {
        unchanged("nothing done", x -> { });
        unchanged("the same content written", x -> x.write(0, 1112));
        unchanged("erased and written again", x -> {
            x.erase(7);
            x.write(7, 7777);
        });
        unchanged("moved and moved back", x -> {
            x.move(0, 3);
            x.move(3, 0);
        });
        unchanged("a new file erased", x -> {
            x.write(5, 5);
            x.erase(5);
        });
        unchanged("changes and a reset", x -> {
            x.write(5, 5);
            x.erase(0);
            x.reset(2);
        });
    }

    private static void againstTheCurrentHead() {
        ForkHall hall = open();
        hall.write(0, 1211);
        CHECK.same("the tree of another head is a change", hall.changedPaths(), 1);
        hall.reset(3);
        CHECK.same("the head's own is none", hall.changedPaths(), 0);
        hall.erase(0);
        hall.branch(2);
        CHECK.same("a new branch leaves the changes", hall.changedPaths(), 1);
        CHECK.answers("an empty work tree on commit 0 has none", ForkHall::new, ForkHall::changedPaths, 0);
        CHECK.answers("all eight files erased", () -> {
            ForkHall full = Stores.full();
            Stores.setWork(full);
            return full;
        }, ForkHall::changedPaths, 8);
    }

    private static void base(ForkHall hall, int one, int other, int due, int count) {
        String what = one + " and " + other;
        CHECK.same("base of " + what, hall.base(one, other), due);
        CHECK.same("base of " + what + " turned", hall.base(other, one), due);
        CHECK.same("base by walking of " + what, hall.baseByWalking(one, other), due);
        CHECK.same("base by walking of " + what + " turned", hall.baseByWalking(other, one), due);
        CHECK.same("bases of " + what, hall.bases(one, other), count);
        CHECK.same("bases of " + what + " turned", hall.bases(other, one), count);
    }

    private static void commonAncestors() {
        base(new ForkHall(), 0, 0, 0, 1);
        ForkHall full = Stores.full();
        base(full, 59, 59, 59, 1);
        base(full, 0, 59, 0, 1);
        base(full, 58, 59, 58, 1);
        base(full, 1, 2, 1, 1);
        base(full, 31, 32, 31, 1);
        ForkHall apart = Stores.divergedFromNothing(Stores.files(1111), Stores.files(2222));
        base(apart, 1, 2, 0, 1);
        base(apart, 0, 2, 0, 1);
    }

    /** 1 is forked into 2, 3 and so on, one each at path 1, 2 and so on; then two branches merge all of them. */
    private static ForkHall crossed(int bases) {
        ForkHall hall = Stores.forked(1111);
        hall.branch(2);
        hall.checkOut(2);
        for (int base = 2; base < 2 + bases; base++) {
            hall.reset(1);
            hall.write(base, 1111 * base);
            hall.commit();
        }
        for (int branch = 0; branch < 2; branch++) {
            hall.checkOut(branch);
            for (int base = 2; base < 2 + bases; base++) {
                hall.checkOut(2);
                hall.reset(branch == 0 ? base : 3 + bases - base);
                hall.checkOut(branch);
                hall.merge(2);
            }
        }
        return hall;
    }

    private static void severalBases() {
        for (int bases = 2; bases <= 6; bases++) {
            ForkHall hall = crossed(bases);
            base(hall, hall.head(0), hall.head(1), 1 + bases, bases);
            base(hall, hall.head(0), 2, 2, 1);
            base(hall, hall.head(1), 1, 1, 1);
        }
        ForkHall line = Stores.chain(Stores.files(1), Stores.files(2), Stores.files(3));
        base(line, 3, 3, 3, 1);
        base(line, 2, 3, 2, 1);
        ForkHall fork = Stores.diverged(Stores.files(1), Stores.files(2), Stores.files(3));
        base(fork, 2, 3, 1, 1);
        ForkHall merged = Stores.mergeableAt(5);
        merged.merge(1);
        base(merged, 5, 2, 2, 1);
        base(merged, 5, 3, 3, 1);
        base(merged, 5, 4, 4, 1);
    }

    /** The base with the greatest number has the least generation. */
    private static void bestOfSeveral() {
        ForkHall hall = Stores.forked(1111);
        Stores.commitTree(hall, 1111, 2222);
        Stores.commitTree(hall, 1111, 2223);
        Stores.commitTree(hall, 1111, 2224);
        hall.branch(2);
        hall.checkOut(1);
        Stores.commitTree(hall, 1111, NO, 3333);
        hall.branch(3);
        hall.merge(2);
        hall.checkOut(0);
        hall.merge(3);
        CHECK.same("the parents on the one side", State.parents(hall, 6), "5,4");
        CHECK.same("and on the other", State.parents(hall, 7), "4,5");
        CHECK.same("the generation of the one base", hall.generation(4), 4);
        CHECK.same("and of the other", hall.generation(5), 2);
        base(hall, 6, 7, 5, 2);
    }
}
