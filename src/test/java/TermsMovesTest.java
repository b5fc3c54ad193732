import java.util.NoSuchElementException;

/** 'Terms', each sentence on moves. */
public final class TermsMovesTest {
    private static final Check CHECK = new Check("TermsMovesTest");
    private static final int NO = Stores.NO_FILE;

    public static void main(String[] args) {
        CHECK.sentence("When a first tree is compared with a second one, a path that only the first one has is gone,"
                + " and one that only the second one has is new.");
        goneAndNew();
        emptyAndFullTrees();
        CHECK.sentence("A gone path and a new one are a pair if their contents have a likeness of at least 3.");
        pairs();
        CHECK.sentence("Of the pairs, the one with the greatest likeness is a move; of several, the one with the lowest"
                + " gone path, and then the one with the lowest new path; pairs with one of its paths are left out"
                + " then, and so on, until there are no more pairs.");
        greatestLikeness();
        lowestGonePath();
        lowestNewPath();
        leftOut();
        untilNoMorePairs();
        CHECK.end();
    }

    private static int[] files(int... contents) {
        return contents;
    }

    /** What movedTo answers for each path from the one tree to the other one. */
    private static void moves(String what, int[] first, int[] second, String due) {
        CHECK.same(what, State.moves(Stores.chain(first, second), 1, 2), due);
    }

    private static void goneAndNew() {
        moves("gone at the first, new at the last path", files(1234), files(NO, NO, NO, NO, NO, NO, NO, 1234),
                "7-------");
        moves("gone at the last, new at the first path", files(NO, NO, NO, NO, NO, NO, NO, 1234), files(1234),
                "-------0");
        moves("a path that both have is not gone", files(1234), files(5678, 1234), "--------");
        moves("though its content is the same", files(1234), files(1234, 1234), "--------");
        moves("a path that both have is not new", files(1234, 5678), files(NO, 1234), "--------");
        moves("a path that both have is neither", files(1234, 5678), files(5678, 1234), "--------");
        moves("a path that none has", files(5678, 1234), files(5678, NO, 1234), "-2------");
        moves("gone without a new one", files(1234, 5678), files(5678), "--------");
        moves("gone without a like one", files(1234), files(NO, 5678), "--------");
        moves("new without a gone one", files(1234), files(1234, 1235), "--------");
        moves("content 0 is a file", files(0), files(NO, 0), "1-------");
        moves("on both sides", files(0, 1234), files(NO, 1234, 0), "2-------");
        ForkHall hall = Stores.chain(files(1234), files(NO, 1234));
        CHECK.same("from the second tree to the first", State.moves(hall, 2, 1), "-0------");
        CHECK.same("from a tree to itself", State.moves(hall, 1, 1), "--------");
        CHECK.same("from the empty tree", State.moves(hall, 0, 2), "--------");
        CHECK.same("to the empty tree", State.moves(hall, 2, 0), "--------");
        CHECK.tells("the trees of commits that are no kin", () -> Stores.divergedFromNothing(files(1234),
                files(NO, NO, 1235)), x -> State.moves(x, 1, 2), "2-------");
    }

    private static void emptyAndFullTrees() {
        CHECK.same("from a full tree to a full one", State.moves(Stores.full(), 1, 59), "--------");
        CHECK.same("from the empty tree to a full one", State.moves(Stores.full(), 0, 59), "--------");
        CHECK.same("from a full tree to the empty one", State.moves(Stores.full(), 59, 0), "--------");
        moves("seven gone for one new", files(1231, 1232, 1233, 1234, 1235, 1236, 1237),
                files(NO, NO, NO, NO, NO, NO, NO, 1234), "---7----");
        moves("one gone for seven new", files(1234), files(NO, 1231, 1232, 1233, 1235, 1236, 1237, 1234), "7-------");
        moves("four for four", files(1111, NO, 2222, NO, 3333, NO, 4444), files(NO, 4444, NO, 3333, NO, 2222, NO, 1111),
                "7-5-3-1-");
        for (int path = 0; path < 8; path++) {
            int any = path;
            CHECK.refuses("no move of path " + path + " at first", NoSuchElementException.class, ForkHall::new,
                    x -> x.movedTo(0, 0, any));
        }
    }

    private static void pairs() {
        moves("likeness 4", files(1234), files(NO, 1234), "1-------");
        moves("likeness 3, the first line", files(1234), files(NO, 9234), "1-------");
        moves("likeness 3, the second line", files(1234), files(NO, 1934), "1-------");
        moves("likeness 3, the third line", files(1234), files(NO, 1294), "1-------");
        moves("likeness 3, the fourth line", files(1234), files(NO, 1239), "1-------");
        moves("likeness 2", files(1234), files(NO, 1299), "--------");
        moves("likeness 2, lines apart", files(1234), files(NO, 9239), "--------");
        moves("likeness 1", files(1234), files(NO, 1999), "--------");
        moves("likeness 0", files(1234), files(NO, 9999), "--------");
        moves("likeness 3 by zeros ahead", files(5), files(NO, 9), "1-------");
        moves("likeness 3 of the greatest contents", files(9999), files(NO, 9990), "1-------");
        moves("likeness 2 of the greatest contents", files(9999), files(NO, 9900), "--------");
        moves("the least and the greatest content", files(0), files(NO, 9999), "--------");
    }

    private static void greatestLikeness() {
        moves("4 ahead of 3, of two gone paths", files(1235, 1234), files(NO, NO, 1234), "-2------");
        moves("4 ahead of 3, of two new paths", files(1234), files(NO, 1235, 1234), "2-------");
        moves("4 ahead of 3, though a lower gone path and a lower new path have 3", files(1235, 1234),
                files(NO, NO, 1236, 1234), "23------");
        moves("3 does not take what 4 takes", files(9234, 1234), files(NO, NO, NO, 1234), "-3------");
    }

    private static void lowestGonePath() {
        moves("of two with likeness 4", files(1234, 1234), files(NO, NO, 1234), "2-------");
        moves("of two with likeness 3", files(1235, 1236), files(NO, NO, 1234), "2-------");
        moves("of two at the highest paths", files(NO, NO, NO, NO, NO, NO, 1234, 1234), files(1234), "------0-");
        moves("ahead of the lowest new path", files(NO, 1234, 1234), files(1234, NO, NO, 1234), "-03-----");
        moves("then the other one", files(9999, 1234, NO, 1239), files(9999, NO, 1235, NO, 1238), "-2-4----");
        moves("though another choice would give two moves", files(1234, 1244), files(NO, NO, 1264, 1233),
                "2-------");
        moves("though another choice would, from higher paths", files(NO, 1234, 1244), files(1254, NO, NO, 1233),
                "-0------");
    }

    private static void lowestNewPath() {
        moves("of two with likeness 4", files(1234), files(NO, 1234, 1234), "1-------");
        moves("of two with likeness 3", files(1234), files(NO, 1236, 1235), "1-------");
        moves("of two at the highest paths", files(1234), files(NO, NO, NO, NO, NO, NO, 1234, 1234), "6-------");
        moves("below the gone path", files(NO, NO, NO, 1234), files(1234, 1234), "---0----");
        moves("of seven", files(1234), files(NO, 1234, 1234, 1234, 1234, 1234, 1234, 1234), "1-------");
    }

    private static void leftOut() {
        moves("a gone path moves once", files(1234), files(NO, 1234, NO, 1234), "1-------");
        moves("a new path is moved to once", files(1234, 1234), files(NO, NO, 1234), "2-------");
        moves("what is left out has no other pair", files(1235, 1236), files(NO, NO, 1234), "2-------");
        moves("a pair of 3 is left out with the path of a pair of 4", files(1234, 1235), files(NO, NO, 1235, 9994),
                "-2------");
    }

    private static void untilNoMorePairs() {
        moves("what is left is paired again", files(1235, 1234), files(NO, NO, 1234, 1236), "32------");
        moves("three with likeness 3", files(1231, 1232, 1233), files(NO, NO, NO, 1234, 1235, 1236), "345-----");
        moves("two of 4, then one of 3", files(1111, 2222, 1112), files(NO, NO, NO, 1113, 2222, 1111), "543-----");
        moves("the second of 4 takes what is left", files(1234, 1234), files(NO, NO, 1234, 1234), "23------");
        moves("four alike", files(5555, 5555, 5555, 5555), files(NO, NO, NO, NO, 5555, 5555, 5555, 5555), "4567----");
        moves("three pairs for two new paths", files(1231, 1232, 1233), files(NO, NO, NO, 1232, 1234), "43------");
    }
}
