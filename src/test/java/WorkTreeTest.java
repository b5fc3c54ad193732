import java.util.NoSuchElementException;

/** Promises 1 to 6: a new object and the work tree. */
public final class WorkTreeTest {
    private static final Check CHECK = new Check("WorkTreeTest");
    private static final int[] OUTSIDE = {-1, 8, 9, Integer.MIN_VALUE, Integer.MAX_VALUE};

    public static void main(String[] args) {
        newObject();
        write();
        erase();
        move();
        content();
        changedPaths();
        CHECK.end();
    }

    private static ForkHall two() {
        ForkHall hall = new ForkHall();
        hall.write(0, 1234);
        hall.write(7, 9999);
        return hall;
    }

    private static void newObject() {
        CHECK.same("a new object", State.of(new ForkHall()),
                "work -,-,-,-,-,-,-,- changed 0 on 0 heads 0 - - - - packed 0 size 0 mean 0.0 commits 1"
                + " | -,-,-,-,-,-,-,- of -,- at 0");
        ForkHall one = new ForkHall();
        ForkHall other = new ForkHall();
        one.write(3, 3);
        one.commit();
        CHECK.same("another object has its own commits", other.commits(), 1);
        CHECK.same("another object has its own files", State.workTree(other), "-,-,-,-,-,-,-,-");
    }

    private static void write() {
        ForkHall hall = new ForkHall();
        CHECK.same("write of a new file", hall.write(0, 0), -1);
        CHECK.same("write over content 0", hall.write(0, 9999), 0);
        CHECK.same("write over content 9999", hall.write(0, 12), 9999);
        CHECK.same("write of the same content", hall.write(0, 12), 12);
        CHECK.same("write at the last path", hall.write(7, 5), -1);
        CHECK.same("the written tree", State.workTree(hall), "12,-,-,-,-,-,-,5");
        hall.erase(0);
        CHECK.same("write after erase", hall.write(0, 1), -1);
        for (int path : OUTSIDE) {
            CHECK.refuses("write at path " + path, IndexOutOfBoundsException.class, WorkTreeTest::two,
                    x -> x.write(path, 1));
            CHECK.refuses("write at path " + path + " of a wrong content", IndexOutOfBoundsException.class,
                    WorkTreeTest::two, x -> x.write(path, 10000));
        }
        for (int wrong : new int[] {-1, 10000, Integer.MIN_VALUE, Integer.MAX_VALUE}) {
            CHECK.refuses("write of content " + wrong, IllegalArgumentException.class, WorkTreeTest::two,
                    x -> x.write(0, wrong));
        }
    }

    private static void erase() {
        ForkHall hall = two();
        CHECK.same("erase of a file", hall.erase(0), 1234);
        CHECK.same("erase at the last path", hall.erase(7), 9999);
        CHECK.same("the tree after both", State.workTree(hall), "-,-,-,-,-,-,-,-");
        hall.write(2, 0);
        CHECK.same("erase of content 0", hall.erase(2), 0);
        for (int path : OUTSIDE) {
            CHECK.refuses("erase at path " + path, IndexOutOfBoundsException.class, WorkTreeTest::two,
                    x -> x.erase(path));
        }
        CHECK.refuses("erase of no file", NoSuchElementException.class, WorkTreeTest::two, x -> x.erase(1));
    }

    private static void move() {
        ForkHall hall = two();
        CHECK.same("move forward", hall.move(0, 6), 1234);
        CHECK.same("move back", hall.move(7, 0), 9999);
        CHECK.same("the tree after both", State.workTree(hall), "9999,-,-,-,-,-,1234,-");
        for (int path : OUTSIDE) {
            CHECK.refuses("move from path " + path, IndexOutOfBoundsException.class, WorkTreeTest::two,
                    x -> x.move(path, 1));
            CHECK.refuses("move to path " + path, IndexOutOfBoundsException.class, WorkTreeTest::two,
                    x -> x.move(0, path));
            CHECK.refuses("move of no file to path " + path, IndexOutOfBoundsException.class, WorkTreeTest::two,
                    x -> x.move(1, path));
        }
        CHECK.refuses("move of no file", NoSuchElementException.class, WorkTreeTest::two, x -> x.move(1, 2));
        CHECK.refuses("move of no file to a file", NoSuchElementException.class, WorkTreeTest::two,
                x -> x.move(1, 0));
        CHECK.refuses("move of no file to itself", NoSuchElementException.class, WorkTreeTest::two,
                x -> x.move(1, 1));
        CHECK.refuses("move to a file", IllegalStateException.class, WorkTreeTest::two, x -> x.move(0, 7));
        CHECK.refuses("move to itself", IllegalStateException.class, WorkTreeTest::two, x -> x.move(0, 0));
    }

    private static void content() {
        CHECK.answers("content of the first path", WorkTreeTest::two, x -> x.content(0), 1234);
        CHECK.answers("content of the last path", WorkTreeTest::two, x -> x.content(7), 9999);
        for (int path : OUTSIDE) {
            CHECK.refuses("content at path " + path, IndexOutOfBoundsException.class, WorkTreeTest::two,
                    x -> x.content(path));
        }
        CHECK.refuses("content of no file", NoSuchElementException.class, WorkTreeTest::two, x -> x.content(3));
    }

    private static void changedPaths() {
        ForkHall hall = two();
        CHECK.same("two new files", hall.changedPaths(), 2);
        hall.commit();
        CHECK.same("after a commit", hall.changedPaths(), 0);
        hall.move(0, 3);
        CHECK.same("a move changes two paths", hall.changedPaths(), 2);
        hall.write(7, 1);
        CHECK.same("and another content one", hall.changedPaths(), 3);
        hall.erase(7);
        CHECK.same("as does an erased file", hall.changedPaths(), 3);
        hall.move(3, 0);
        hall.write(7, 9999);
        CHECK.same("all as before", hall.changedPaths(), 0);
        hall.branch(1);
        hall.write(1, 1);
        hall.commit();
        hall.checkOut(1);
        CHECK.same("against the head of the branch checked out", hall.changedPaths(), 0);
        Stores.setWork(hall, 1, 2, 3, 4, 5, 6, 7, 8);
        CHECK.same("all eight paths", hall.changedPaths(), 8);
    }
}
