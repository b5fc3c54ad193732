import java.util.NoSuchElementException;
import java.util.function.IntConsumer;

/** Promises 16 to 24 and 26: questions about commits, histories and moves. */
public final class HistoriesTest {
    private static final Check CHECK = new Check("HistoriesTest");

    public static void main(String[] args) {
        contentIn();
        parentOf();
        generation();
        ancestors();
        bases();
        crissCross();
        severalGreatBases();
        movedTo();
        movesOfSeveralFiles();
        lastChange();
        CHECK.end();
    }

    /** 0 - 1 - 2 - 4 (a merge of 2 and 3), 1 - 3 - 5; branch 0 has 4, branch 1 is current with 5. */
    private static ForkHall merged() {
        ForkHall hall = Stores.diverged(Stores.files(1111), Stores.files(1111, 2222), Stores.files(1111, -1, 3333));
        hall.merge(1);
        hall.checkOut(1);
        Stores.commitTree(hall, 1112, -1, 3333);
        return hall;
    }

    /** Commits 4 and 5 merge 2 and 3 both ways; 6 follows 4 and 7 follows 5. */
    private static ForkHall crossed() {
        ForkHall hall = Stores.diverged(Stores.files(1111), Stores.files(1111, 2222), Stores.files(1111, -1, 3333));
        hall.branch(2);
        hall.merge(1);
        hall.checkOut(1);
        hall.merge(2);
        hall.checkOut(0);
        Stores.commitTree(hall, 1111, 2222, 3333, 4444);
        hall.checkOut(1);
        Stores.commitTree(hall, 1111, 2222, 3333, -1, 5555);
        return hall;
    }

    private static void noSuchCommit(String what, IntConsumer call) {
        for (int commit : new int[] {-1, 6, 7, 60, 64, Integer.MIN_VALUE, Integer.MAX_VALUE}) {
            CHECK.same(what + " of commit " + commit, Check.thrownBy(() -> call.accept(commit)),
                    IndexOutOfBoundsException.class.getName());
        }
    }

    private static void contentIn() {
        CHECK.answers("content of an early tree", HistoriesTest::merged, x -> x.contentIn(1, 0), 1111);
        CHECK.answers("content of a merged tree", HistoriesTest::merged, x -> x.contentIn(4, 2), 3333);
        CHECK.answers("content of the latest tree", HistoriesTest::merged, x -> x.contentIn(5, 0), 1112);
        ForkHall hall = new ForkHall();
        hall.write(7, 77);
        hall.commit();
        CHECK.same("content of the last path", hall.contentIn(1, 7), 77);
        noSuchCommit("content", commit -> merged().contentIn(commit, 0));
        noSuchCommit("content at no path", commit -> merged().contentIn(commit, 8));
        for (int path : new int[] {-1, 8, Integer.MIN_VALUE, Integer.MAX_VALUE}) {
            CHECK.refuses("content in a tree at path " + path, IndexOutOfBoundsException.class,
                    HistoriesTest::merged, x -> x.contentIn(1, path));
        }
        CHECK.refuses("no file in the tree", NoSuchElementException.class, HistoriesTest::merged,
                x -> x.contentIn(2, 2));
        CHECK.refuses("no file in tree 0", NoSuchElementException.class, HistoriesTest::merged,
                x -> x.contentIn(0, 0));
    }

    private static void parentOf() {
        CHECK.answers("first parent", HistoriesTest::merged, x -> x.parentOf(1, 0), 0);
        CHECK.answers("first parent of a merge", HistoriesTest::merged, x -> x.parentOf(4, 0), 2);
        CHECK.answers("second parent of a merge", HistoriesTest::merged, x -> x.parentOf(4, 1), 3);
        CHECK.answers("first parent beside a merge", HistoriesTest::merged, x -> x.parentOf(5, 0), 3);
        noSuchCommit("parent", commit -> merged().parentOf(commit, 0));
        noSuchCommit("no parent", commit -> merged().parentOf(commit, 2));
        for (int which : new int[] {-1, 2, 3, Integer.MIN_VALUE, Integer.MAX_VALUE}) {
            CHECK.refuses("parent " + which, IndexOutOfBoundsException.class, HistoriesTest::merged,
                    x -> x.parentOf(4, which));
            CHECK.refuses("parent of commit 0, " + which, IndexOutOfBoundsException.class, HistoriesTest::merged,
                    x -> x.parentOf(0, which));
        }
        CHECK.refuses("first parent of commit 0", NoSuchElementException.class, HistoriesTest::merged,
                x -> x.parentOf(0, 0));
        CHECK.refuses("second parent of commit 0", NoSuchElementException.class, HistoriesTest::merged,
                x -> x.parentOf(0, 1));
        CHECK.refuses("second parent of no merge", NoSuchElementException.class, HistoriesTest::merged,
                x -> x.parentOf(5, 1));
    }

    private static void generation() {
        int[] due = {0, 1, 2, 2, 3, 3};
        for (int commit = 0; commit < due.length; commit++) {
            int number = commit;
            CHECK.answers("generation of " + commit, HistoriesTest::merged, x -> x.generation(number), due[commit]);
        }
        ForkHall uneven = Stores.diverged(Stores.files(1111), Stores.files(1111, 2222), Stores.files(1111, -1, 3333));
        Stores.commitTree(uneven, 1111, 2223);
        Stores.commitTree(uneven, 1111, 2233);
        uneven.merge(1);
        CHECK.same("a merge follows its first parent, if that is later", uneven.generation(6), 5);
        uneven.reset(5);
        uneven.checkOut(1);
        uneven.merge(0);
        CHECK.same("and its second one, if that is", uneven.generation(7), 5);
        noSuchCommit("generation", commit -> merged().generation(commit));
    }

    private static void ancestors() {
        String[] of = {"0", "01", "012", "013", "01234", "0135"};
        for (int other = 0; other < of.length; other++) {
            for (int commit = 0; commit < of.length; commit++) {
                int one = commit;
                int two = other;
                long due = of[other].indexOf('0' + commit) >= 0 ? 1 : 0;
                CHECK.answers(commit + " is an ancestor of " + other, HistoriesTest::merged,
                        x -> x.isAncestor(one, two) ? 1 : 0, due);
                CHECK.answers(commit + " is, by walking, an ancestor of " + other, HistoriesTest::merged,
                        x -> x.isAncestorByWalking(one, two) ? 1 : 0, due);
            }
        }
        ForkHall chain = Stores.fillTo(new ForkHall(), 60);
        CHECK.same("0 of 59", chain.isAncestor(0, 59), true);
        CHECK.same("59 of 0", chain.isAncestor(59, 0), false);
        CHECK.same("59 of itself", chain.isAncestor(59, 59), true);
        CHECK.same("31 of 32", chain.isAncestor(31, 32), true);
        CHECK.same("0 of 59 by walking", chain.isAncestorByWalking(0, 59), true);
        CHECK.same("59 of 0 by walking", chain.isAncestorByWalking(59, 0), false);
        noSuchCommit("isAncestor, first", commit -> merged().isAncestor(commit, 0));
        noSuchCommit("isAncestor, other", commit -> merged().isAncestor(0, commit));
        noSuchCommit("isAncestorByWalking, first", commit -> merged().isAncestorByWalking(commit, 0));
        noSuchCommit("isAncestorByWalking, other", commit -> merged().isAncestorByWalking(0, commit));
    }

    private static void base(ForkHall hall, int one, int other, int due, int count) {
        String what = one + " and " + other;
        CHECK.same("base of " + what, hall.base(one, other), due);
        CHECK.same("base by walking of " + what, hall.baseByWalking(one, other), due);
        CHECK.same("bases of " + what, hall.bases(one, other), count);
    }

    private static void bases() {
        ForkHall hall = merged();
        base(hall, 2, 3, 1, 1);
        base(hall, 3, 2, 1, 1);
        base(hall, 4, 5, 3, 1);
        base(hall, 5, 4, 3, 1);
        base(hall, 1, 4, 1, 1);
        base(hall, 4, 4, 4, 1);
        base(hall, 0, 5, 0, 1);
        base(hall, 0, 0, 0, 1);
        CHECK.same("a walk after another one", hall.isAncestorByWalking(0, 5), true);
        base(Stores.fillTo(new ForkHall(), 60), 59, 58, 58, 1);
        noSuchCommit("base, first", commit -> merged().base(commit, 0));
        noSuchCommit("base, other", commit -> merged().base(0, commit));
        noSuchCommit("baseByWalking, first", commit -> merged().baseByWalking(commit, 0));
        noSuchCommit("baseByWalking, other", commit -> merged().baseByWalking(0, commit));
        noSuchCommit("bases, first", commit -> merged().bases(commit, 0));
        noSuchCommit("bases, other", commit -> merged().bases(0, commit));
    }

    private static void crissCross() {
        ForkHall hall = crossed();
        CHECK.same("parents of 4", State.parents(hall, 4), "2,3");
        CHECK.same("parents of 5", State.parents(hall, 5), "3,2");
        base(hall, 4, 5, 3, 2);
        base(hall, 6, 7, 3, 2);
        base(hall, 7, 6, 3, 2);
        base(hall, 6, 5, 3, 2);
        base(hall, 6, 3, 3, 1);
        base(hall, 6, 2, 2, 1);
    }

    /** Three commits beside one another, all of them in both histories. */
    private static void severalGreatBases() {
        ForkHall hall = crossed();
        hall.branch(3);
        hall.checkOut(3);
        hall.reset(1);
        Stores.commitTree(hall, 1111, -1, -1, -1, -1, 6666);
        hall.checkOut(0);
        hall.merge(3);
        hall.checkOut(1);
        hall.merge(3);
        base(hall, 9, 10, 8, 3);
        base(hall, 10, 9, 8, 3);
        base(hall, 9, 8, 8, 1);
    }

    private static ForkHall changed(int[] before, int[] after) {
        ForkHall hall = new ForkHall();
        Stores.commitTree(hall, before);
        Stores.commitTree(hall, after);
        return hall;
    }

    /** What movedTo answers for each path from commit 1 to commit 2, with - for none. */
    private static String moves(int[] before, int[] after) {
        ForkHall hall = changed(before, after);
        StringBuilder text = new StringBuilder();
        for (int path = 0; path < 8; path++) {
            try {
                text.append(hall.movedTo(1, 2, path));
            } catch (NoSuchElementException e) {
                text.append('-');
            }
        }
        return text.toString();
    }

    private static void movedTo() {
        CHECK.same("a whole file", moves(Stores.files(1234), Stores.files(-1, -1, 1234)), "2-------");
        CHECK.same("with one line changed", moves(Stores.files(1234), Stores.files(-1, 1934)), "1-------");
        CHECK.same("with the first line changed", moves(Stores.files(1234), Stores.files(-1, 9234)), "1-------");
        CHECK.same("with the last line changed", moves(Stores.files(1234), Stores.files(-1, 1239)), "1-------");
        CHECK.same("with two lines changed", moves(Stores.files(1234), Stores.files(-1, 1299)), "--------");
        CHECK.same("lines at other places", moves(Stores.files(1234), Stores.files(-1, 2341)), "--------");
        CHECK.same("zeros ahead are lines", moves(Stores.files(7), Stores.files(-1, 1007)), "1-------");
        CHECK.same("content 0", moves(Stores.files(0), Stores.files(-1, 0)), "1-------");
        CHECK.same("the path has a file still", moves(Stores.files(1234), Stores.files(9876, 1234)), "--------");
        CHECK.same("the other path had one", moves(Stores.files(1234, 9876), Stores.files(-1, 1234)), "--------");
        CHECK.same("from the last path", moves(Stores.files(-1, -1, -1, -1, -1, -1, -1, 5),
                Stores.files(5)), "-------0");
        ForkHall hall = changed(Stores.files(1234), Stores.files(-1, 1234));
        CHECK.same("and back", hall.movedTo(2, 1, 1), 0);
        CHECK.refuses("not in the same tree", NoSuchElementException.class,
                () -> changed(Stores.files(1234), Stores.files(-1, 1234)), x -> x.movedTo(1, 1, 0));
        CHECK.refuses("not a path without a file", NoSuchElementException.class,
                () -> changed(Stores.files(1234), Stores.files(-1, 1234)), x -> x.movedTo(1, 2, 1));
        noSuchCommit("movedTo, first", commit -> merged().movedTo(commit, 0, 0));
        noSuchCommit("movedTo, other", commit -> merged().movedTo(0, commit, 0));
        for (int path : new int[] {-1, 8, Integer.MIN_VALUE, Integer.MAX_VALUE}) {
            CHECK.refuses("movedTo of path " + path, IndexOutOfBoundsException.class, HistoriesTest::merged,
                    x -> x.movedTo(1, 2, path));
        }
    }

    private static void movesOfSeveralFiles() {
        CHECK.same("the greatest likeness first, though its gone path is higher",
                moves(Stores.files(1235, 1234), Stores.files(-1, -1, 1234)), "-2------");
        CHECK.same("the lowest gone path of several", moves(Stores.files(1234, 1234),
                Stores.files(-1, -1, 1234)), "2-------");
        CHECK.same("the lowest new path of several", moves(Stores.files(1234),
                Stores.files(-1, 1235, 1236)), "1-------");
        CHECK.same("the gone path goes before the new one", moves(Stores.files(-1, 1234, 1234),
                Stores.files(1234, -1, -1, 1234)), "-03-----");
        CHECK.same("a new path of greater likeness, though it is higher", moves(Stores.files(1234),
                Stores.files(-1, 1235, 1234)), "2-------");
        CHECK.same("what is left is paired again", moves(Stores.files(1235, 1234),
                Stores.files(-1, -1, 1234, 1236)), "32------");
        CHECK.same("a taken new path leaves the other without", moves(Stores.files(1235, 1236),
                Stores.files(-1, -1, 1234)), "2-------");
        CHECK.same("four and four", moves(Stores.files(1111, 2222, 3333, 4444),
                Stores.files(-1, -1, -1, -1, 4444, 3333, 2222, 1111)), "7654----");
    }

    private static void lastChange() {
        ForkHall hall = merged();
        CHECK.same("changed in the head", hall.lastChange(0), 5);
        CHECK.same("changed in its parent", hall.lastChange(2), 3);
        CHECK.refuses("not along first parents", NoSuchElementException.class, HistoriesTest::merged,
                x -> x.lastChange(1));
        hall.checkOut(0);
        CHECK.same("a merge against its first parent", hall.lastChange(2), 4);
        CHECK.same("what the merge left", hall.lastChange(1), 2);
        CHECK.same("back to commit 1", hall.lastChange(0), 1);
        hall.erase(1);
        CHECK.same("the work tree does not count", hall.lastChange(1), 2);
        hall.commit();
        CHECK.same("an erased file", hall.lastChange(1), 6);
        CHECK.refuses("never changed", NoSuchElementException.class, HistoriesTest::merged, x -> x.lastChange(7));
        CHECK.refuses("on a new object", NoSuchElementException.class, ForkHall::new, x -> x.lastChange(0));
        for (int path : new int[] {-1, 8, Integer.MIN_VALUE, Integer.MAX_VALUE}) {
            CHECK.refuses("lastChange of path " + path, IndexOutOfBoundsException.class, HistoriesTest::merged,
                    x -> x.lastChange(path));
        }
        ForkHall chain = new ForkHall();
        chain.write(0, 1);
        chain.commit();
        Stores.fillTo(chain, 60);
        CHECK.same("along the longest history", chain.lastChange(0), 1);
    }
}
