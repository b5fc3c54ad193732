import java.util.NoSuchElementException;

/** Promises 27 to 32: packing and accounts. */
public final class PacksTest {
    private static final Check CHECK = new Check("PacksTest");

    public static void main(String[] args) {
        packed();
        depthOf();
        packedFrom();
        leastSizeAndFirst();
        depthLimit();
        packSize();
        packShare();
        meanFiles();
        manyContents();
        CHECK.end();
    }

    private static ForkHall of(int... files) {
        ForkHall hall = new ForkHall();
        Stores.commitTree(hall, files);
        return hall;
    }

    private static void packed() {
        CHECK.answers("nothing at first", ForkHall::new, ForkHall::packed, 0);
        ForkHall hall = of(1111, 2222, 1111);
        CHECK.same("each content once", hall.packed(), 2);
        hall.write(5, 7777);
        CHECK.same("the work tree is not packed", hall.packed(), 2);
        hall.commit();
        CHECK.same("before it is committed", hall.packed(), 3);
        hall.reset(0);
        CHECK.same("commits without a branch are packed still", hall.packed(), 3);
        hall.write(3, 2222);
        hall.commit();
        CHECK.same("an old content in a new commit", hall.packed(), 3);
        CHECK.answers("content 0 is one", () -> of(0), ForkHall::packed, 1);
    }

    private static void depthOf() {
        ForkHall hall = of(1111, 1112, 1122, 9999);
        CHECK.same("a whole one", hall.depthOf(1111), 0);
        CHECK.same("a difference from it", hall.depthOf(1112), 1);
        CHECK.same("a difference from a difference", hall.depthOf(1122), 2);
        CHECK.same("another whole one", hall.depthOf(9999), 0);
        for (int content : new int[] {-1, 0, 1, 1113, 10000, 11111, Integer.MIN_VALUE, Integer.MAX_VALUE}) {
            CHECK.refuses("depth of " + content, NoSuchElementException.class, () -> of(1111, 1112, 1122),
                    x -> x.depthOf(content));
            CHECK.refuses("source of " + content, NoSuchElementException.class, () -> of(1111, 1112, 1122),
                    x -> x.packedFrom(content));
        }
        CHECK.refuses("depth on a new object", NoSuchElementException.class, ForkHall::new, x -> x.depthOf(0));
    }

    private static void packedFrom() {
        ForkHall hall = of(1111, 1112, 1122, 9999, 0, 1);
        CHECK.same("one line", hall.packedFrom(1112), 1111);
        CHECK.same("the likest", hall.packedFrom(1122), 1112);
        CHECK.same("from content 0", hall.packedFrom(1), 0);
        CHECK.refuses("a whole one", NoSuchElementException.class, () -> of(1111, 1112), x -> x.packedFrom(1111));
        CHECK.refuses("three lines make it whole", NoSuchElementException.class, () -> of(1111, 1222),
                x -> x.packedFrom(1222));
        CHECK.answers("two lines do not", () -> of(1111, 1122), x -> x.packedFrom(1122), 1111);
        CHECK.refuses("on a new object", NoSuchElementException.class, ForkHall::new, x -> x.packedFrom(0));
    }

    private static void leastSizeAndFirst() {
        CHECK.answers("the least size, though it comes later", () -> of(1111, 1234, 1122),
                x -> x.packedFrom(1122), 1111);
        CHECK.answers("the least, though a whole one comes first", () -> of(1111, 1222, 1122),
                x -> x.packedFrom(1122), 1222);
        CHECK.answers("a later one of lesser size", () -> of(1111, 2122, 1122), x -> x.packedFrom(1122), 2122);
        CHECK.answers("of two alike the first", () -> of(1211, 1121, 1111), x -> x.packedFrom(1111), 1211);
        ForkHall hall = new ForkHall();
        hall.write(7, 1211);
        hall.commit();
        hall.write(0, 1121);
        hall.commit();
        hall.write(1, 1111);
        hall.commit();
        CHECK.same("in the order of commits, then of paths", hall.packedFrom(1111), 1211);
        CHECK.answers("paths in their order within a commit", () -> of(1121, 1211, 1111),
                x -> x.packedFrom(1111), 1121);
    }

    private static void depthLimit() {
        ForkHall hall = of(1111, 1112, 1122, 1222, 2222);
        CHECK.same("depth 3", hall.depthOf(1222), 3);
        CHECK.same("none goes out from depth 3, so the next best", hall.packedFrom(2222), 1122);
        CHECK.same("which has depth 2", hall.depthOf(2222), 3);
        CHECK.same("sizes", hall.packSize(), 4 + 2 + 2 + 2 + 3);
        ForkHall whole = of(1111, 1112, 1122, 1222, 1223, 3223);
        CHECK.same("from depth 2", whole.packedFrom(1223), 1122);
        CHECK.same("no source at all", Check.thrownBy(() -> whole.packedFrom(3223)),
                NoSuchElementException.class.getName());
        CHECK.same("so it is whole", whole.depthOf(3223), 0);
    }

    private static void packSize() {
        CHECK.answers("nothing", ForkHall::new, ForkHall::packSize, 0);
        CHECK.answers("whole", () -> of(1111), ForkHall::packSize, 4);
        CHECK.answers("one line more", () -> of(1111, 1112), ForkHall::packSize, 6);
        CHECK.answers("two lines more", () -> of(1111, 1122), ForkHall::packSize, 7);
        CHECK.answers("three lines are whole", () -> of(1111, 1222), ForkHall::packSize, 8);
    }

    private static void packShare() {
        CHECK.refuses("nothing packed", ArithmeticException.class, ForkHall::new, ForkHall::packShare);
        CHECK.refuses("nothing committed but emptiness", ArithmeticException.class, () -> {
            ForkHall hall = new ForkHall();
            hall.write(0, 1);
            return hall;
        }, ForkHall::packShare);
        CHECK.sameFloat("one whole", of(1111).packShare(), 1.0f);
        CHECK.sameFloat("6 of 8", of(1111, 1112).packShare(), 0.75f);
        CHECK.sameFloat("8 of 12, in float", of(1111, 1112, 1113).packShare(), 8.0f / 12.0f);
    }

    private static void meanFiles() {
        CHECK.sameDouble("of commit 0", new ForkHall().meanFiles(), 0.0);
        ForkHall hall = of(1, 2, 3);
        CHECK.sameDouble("3 of two", hall.meanFiles(), 1.5);
        hall.erase(1);
        CHECK.sameDouble("the work tree does not count", hall.meanFiles(), 1.5);
        hall.erase(0);
        hall.commit();
        CHECK.sameDouble("4 of three, in double", hall.meanFiles(), 4.0 / 3.0);
        hall.reset(0);
        CHECK.sameDouble("commits without a branch count", hall.meanFiles(), 4.0 / 3.0);
    }

    /** As many contents as 512 calls can bring, the asking one included: 452 writes and 59 commits. */
    private static void manyContents() {
        ForkHall hall = new ForkHall();
        int next = 0;
        for (int made = 1; made < 60; made++) {
            int files = made == 59 ? 452 - next : made % 3 == 0 ? 7 : 8;
            for (int path = 0; path < files; path++) {
                hall.write(path, next);
                next++;
            }
            hall.commit();
        }
        CHECK.same("all of them are packed", hall.packed(), next);
        CHECK.same("as many as calls allow", next, 452);
    }
}
