/** 'Terms', each sentence on files. */
public final class TermsFilesTest {
    private static final Check CHECK = new Check("TermsFilesTest");
    private static final int NO = Stores.NO_FILE;
    private static final int[] NO_PATHS = {-1, 8, Integer.MIN_VALUE, Integer.MAX_VALUE};
    private static final int[] NO_CONTENTS = {-1, 10000, -9999, Integer.MIN_VALUE, Integer.MAX_VALUE};
    private static final int[] CONTENTS = {0, 1, 9, 10, 99, 100, 999, 1000, 9998, 9999};

    public static void main(String[] args) {
        CHECK.sentence("A file has a path, which is a number from 0 to 7, and a content, a number from 0 to 9999; its"
                + " lines are the four decimal digits of the content, with zeros ahead if there are fewer.");
        for (int path = 0; path < 8; path++) {
            eachPath(path);
        }
        for (int path : NO_PATHS) {
            noPath(path);
        }
        for (int content : CONTENTS) {
            eachContent(content);
        }
        for (int content : NO_CONTENTS) {
            noContent(content);
        }
        zerosAhead();
        CHECK.sentence("The likeness of two contents is the number of lines, from the first one to the fourth one, that"
                + " are the same in both.");
        likeness();
        CHECK.sentence("A tree has at most one file for each path.");
        oneFileForEachPath();
        CHECK.sentence("The work tree is the tree that is written, erased in and moved in; it is empty at first.");
        workTree();
        CHECK.end();
    }

    private static String only(int path, int content) {
        StringBuilder text = new StringBuilder();
        for (int place = 0; place < 8; place++) {
            text.append(place == 0 ? "" : ",").append(place == path ? String.valueOf(content) : "-");
        }
        return text.toString();
    }

    private static void eachPath(int path) {
        int opposite = 7 - path;
        ForkHall hall = new ForkHall();
        CHECK.same("write at " + path, hall.write(path, 1234), -1);
        CHECK.same("content at " + path, hall.content(path), 1234);
        CHECK.same("the tree with " + path, State.workTree(hall), only(path, 1234));
        CHECK.same("one changed path, " + path, hall.changedPaths(), 1);
        CHECK.same("commit with " + path, hall.commit(), 1);
        CHECK.same("content in 1 at " + path, hall.contentIn(1, path), 1234);
        CHECK.same("last change of " + path, hall.lastChange(path), 1);
        CHECK.same("move from " + path, hall.move(path, opposite), 1234);
        CHECK.same("the tree moved from " + path, State.workTree(hall), only(opposite, 1234));
        CHECK.same("commit moved from " + path, hall.commit(), 2);
        CHECK.same("movedTo from " + path, hall.movedTo(1, 2, path), opposite);
        CHECK.same("erase at " + opposite, hall.erase(opposite), 1234);
        CHECK.same("nothing left at " + opposite, State.workTree(hall), only(-1, 0));
    }

    private static void noPath(int path) {
        CHECK.refuses("write at " + path, IndexOutOfBoundsException.class, Stores::full, x -> x.write(path, 1));
        CHECK.refuses("erase at " + path, IndexOutOfBoundsException.class, Stores::full, x -> x.erase(path));
        CHECK.refuses("move from " + path, IndexOutOfBoundsException.class, Stores::full, x -> x.move(path, 0));
        CHECK.refuses("move to " + path, IndexOutOfBoundsException.class, Stores::full, x -> x.move(0, path));
        CHECK.refuses("content at " + path, IndexOutOfBoundsException.class, Stores::full, x -> x.content(path));
        CHECK.refuses("contentIn at " + path, IndexOutOfBoundsException.class, Stores::full,
                x -> x.contentIn(59, path));
        CHECK.refuses("movedTo from " + path, IndexOutOfBoundsException.class, Stores::full,
                x -> x.movedTo(58, 59, path));
        CHECK.refuses("lastChange of " + path, IndexOutOfBoundsException.class, Stores::full, x -> x.lastChange(path));
        CHECK.refuses("write at " + path + " of a new object", IndexOutOfBoundsException.class, ForkHall::new,
                x -> x.write(path, 1));
    }

    private static void eachContent(int content) {
        ForkHall hall = new ForkHall();
        CHECK.same("write of " + content, hall.write(3, content), -1);
        CHECK.same("content " + content, hall.content(3), content);
        CHECK.same("write over " + content, hall.write(3, 5555), content);
        CHECK.same("write of " + content + " again", hall.write(3, content), 5555);
        CHECK.same("move of " + content, hall.move(3, 4), content);
        CHECK.same("commit of " + content, hall.commit(), 1);
        CHECK.same("content " + content + " in 1", hall.contentIn(1, 4), content);
        CHECK.same("depth of " + content, hall.depthOf(content), 0);
        CHECK.same("erase of " + content, hall.erase(4), content);
    }

    private static void noContent(int content) {
        CHECK.refuses("write of " + content + " over a file", IllegalArgumentException.class, Stores::full,
                x -> x.write(0, content));
        CHECK.refuses("write of " + content + " to no file", IllegalArgumentException.class, ForkHall::new,
                x -> x.write(7, content));
        CHECK.tells("depth of " + content, Stores::full, x -> x.depthOf(content), Check.NO_ELEMENT);
        CHECK.tells("source of " + content, Stores::full, x -> x.packedFrom(content), Check.NO_ELEMENT);
    }

    /** What the second of two packed contents takes: 5 less the likeness, or 4. */
    private static long sizeOfSecond(int one, int other) {
        return Stores.chain(Stores.files(one, other)).packSize() - 4;
    }

    private static String merged(int base, int ours, int theirs) {
        ForkHall hall = Stores.diverged(Stores.files(base), Stores.files(ours), Stores.files(theirs));
        hall.merge(1);
        return State.workTree(hall);
    }

    private static void zerosAhead() {
        CHECK.same("7 is 0007", sizeOfSecond(7, 1007), 2);
        CHECK.same("17 is 0017", sizeOfSecond(17, 1117), 3);
        CHECK.same("117 is 0117", sizeOfSecond(117, 1117), 2);
        CHECK.same("0 is 0000", sizeOfSecond(0, 9000), 2);
        CHECK.same("and like 1", sizeOfSecond(0, 1), 2);
        CHECK.same("70 is not 7000", sizeOfSecond(70, 7000), 3);
        CHECK.same("7 moved as 1007", State.moves(Stores.chain(Stores.files(7), Stores.files(NO, 1007)), 1, 2),
                "1-------");
        CHECK.same("7 moved as 70 is no move", State.moves(Stores.chain(Stores.files(7), Stores.files(NO, 70)), 1, 2),
                "--------");
        CHECK.same("lines ahead of 5", merged(5, 1005, 25), only(0, 1025));
        CHECK.same("lines that become zeros ahead", merged(1105, 105, 1005), only(0, 5));
        CHECK.same("all four become zero", merged(1234, 34, 1200), only(0, 0));
    }

    private static void likeness() {
        int[] one = {9234, 1934, 1294, 1239};
        int[] two = {9934, 9294, 9239, 1994, 1939, 1299};
        int[] three = {9994, 9939, 9299, 1999};
        for (int other : one) {
            CHECK.same("three lines of " + other, sizeOfSecond(1234, other), 2);
            CHECK.same("a move to " + other, movedAs(other), "1-------");
        }
        for (int other : two) {
            CHECK.same("two lines of " + other, sizeOfSecond(1234, other), 3);
            CHECK.same("no move to " + other, movedAs(other), "--------");
        }
        for (int other : three) {
            CHECK.same("one line of " + other, sizeOfSecond(1234, other), 4);
            CHECK.same("no move to " + other, movedAs(other), "--------");
        }
        CHECK.same("four lines: a move", movedAs(1234), "1-------");
        CHECK.same("no line", sizeOfSecond(1234, 9999), 4);
        CHECK.same("the same digits, at other lines", sizeOfSecond(1234, 2341), 4);
        CHECK.same("no move to them", movedAs(2341), "--------");
        CHECK.same("the same digits backwards", sizeOfSecond(1234, 4321), 4);
        CHECK.same("digits near by are not the same", sizeOfSecond(1234, 2345), 4);
    }

    private static String movedAs(int other) {
        return State.moves(Stores.chain(Stores.files(1234), Stores.files(NO, other)), 1, 2);
    }

    private static void oneFileForEachPath() {
        ForkHall hall = new ForkHall();
        for (int path = 0; path < 8; path++) {
            hall.write(path, path);
            hall.write(path, path + 1);
        }
        CHECK.same("the later file is the one", State.workTree(hall), "1,2,3,4,5,6,7,8");
        CHECK.same("eight paths changed", hall.changedPaths(), 8);
        hall.commit();
        CHECK.sameDouble("eight files of two trees", hall.meanFiles(), 4.0);
        CHECK.same("the full tree takes a content for another", hall.write(0, 9), 1);
        hall.commit();
        CHECK.same("and has eight files still", State.tree(hall, 2), "9,2,3,4,5,6,7,8");
        CHECK.sameDouble("as each tree has", hall.meanFiles(), 16.0 / 3.0);
        for (int path = 0; path < 8; path++) {
            int full = path;
            CHECK.refuses("no move in a full tree to " + path, IllegalStateException.class, Stores::full,
                    x -> x.move(3, full));
        }
    }

    private static void workTree() {
        for (int path = 0; path < 8; path++) {
            int none = path;
            CHECK.refuses("no content at first at " + path, java.util.NoSuchElementException.class, ForkHall::new,
                    x -> x.content(none));
            CHECK.refuses("nothing to erase at first at " + path, java.util.NoSuchElementException.class,
                    ForkHall::new, x -> x.erase(none));
            CHECK.refuses("nothing to move at first at " + path, java.util.NoSuchElementException.class,
                    ForkHall::new, x -> x.move(none, 7 - none));
        }
        CHECK.answers("no change at first", ForkHall::new, ForkHall::changedPaths, 0);
        ForkHall hall = new ForkHall();
        hall.write(1, 11);
        hall.write(2, 22);
        hall.move(1, 5);
        hall.erase(2);
        CHECK.same("written, moved and erased", State.workTree(hall), only(5, 11));
        CHECK.same("in the work tree alone", State.tree(hall, 0), only(-1, 0));
        hall.erase(5);
        CHECK.same("the empty work tree again", hall.changedPaths(), 0);
    }
}
