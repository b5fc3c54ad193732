import java.util.NoSuchElementException;
import java.util.function.Supplier;

/**
 * 'Promise 2' to 'Promise 29', each argument: the first and the last value that are allowed, with what they answer, and
 * the first ones that are not, on both sides, the least and the greatest int among them.
 */
public final class RangesTest {
    private static final Check CHECK = new Check("RangesTest");
    private static final int NO = Stores.NO_FILE;

    public static void main(String[] args) {
        CHECK.sentence("- `path`: the path, 0 to 7");
        paths();
        CHECK.sentence("- `to`: the other path, 0 to 7");
        otherPath();
        CHECK.sentence("- `content`: the content, 0 to 9999");
        contents();
        CHECK.sentence("- `branch`: the branch, 0 to 4");
        newBranch();
        CHECK.sentence("Throws `IndexOutOfBoundsException` if the number is out of range");
        branches();
        rewrittenBranches();
        CHECK.sentence("Throws `IndexOutOfBoundsException` if there is no such commit");
        reset();
        commits();
        ofANewObject();
        CHECK.sentence("- `path`: the path in the first tree, 0 to 7");
        movedTo();
        CHECK.sentence("- `which`: 0 for the first parent, 1 for the second one");
        parents();
        CHECK.sentence("Throws `NoSuchElementException` if it is not packed");
        packedContents();
        CHECK.end();
    }

    /** A call with one argument that has a range; the others are as the test has set them. */
    private interface Call {
        Object of(ForkHall hall, int value);
    }

    private static void range(String what, Supplier<ForkHall> maker, Call call, Object[] first, Object[] last) {
        range(what, maker, call, first, last, IndexOutOfBoundsException.class);
    }

    /** First and last are a value and its answer each. */
    private static void range(String what, Supplier<ForkHall> maker, Call call, Object[] first, Object[] last,
            Class<? extends RuntimeException> refusal) {
        int least = (Integer) first[0];
        int greatest = (Integer) last[0];
        CHECK.tells(what + " " + least, maker, x -> call.of(x, least), first[1]);
        CHECK.tells(what + " " + greatest, maker, x -> call.of(x, greatest), last[1]);
        for (int wrong : new int[] {least - 1, greatest + 1, Integer.MIN_VALUE, Integer.MAX_VALUE}) {
            CHECK.refuses(what + " " + wrong, refusal, maker, x -> call.of(x, wrong));
        }
    }

    private static Object[] at(int value, Object answer) {
        return new Object[] {value, answer};
    }

    /** Files at the first and the last path alone. */
    private static ForkHall ends() {
        ForkHall hall = Stores.chain(Stores.files(1234, NO, NO, NO, NO, NO, NO, 9999));
        hall.write(0, 1235);
        return hall;
    }

    /** A file at path 3 alone. */
    private static ForkHall middle() {
        return Stores.chain(Stores.files(NO, NO, NO, 3333));
    }

    private static void paths() {
        range("write at", RangesTest::ends, (x, path) -> x.write(path, 5), at(0, 1235), at(7, 9999));
        range("write of a new object at", ForkHall::new, (x, path) -> x.write(path, 5), at(0, -1), at(7, -1));
        range("erase at", RangesTest::ends, ForkHall::erase, at(0, 1235), at(7, 9999));
        range("erase of a new object at", ForkHall::new, ForkHall::erase, at(0, Check.NO_ELEMENT),
                at(7, Check.NO_ELEMENT));
        range("move from", RangesTest::ends, (x, path) -> x.move(path, 3), at(0, 1235), at(7, 9999));
        range("content at", RangesTest::ends, ForkHall::content, at(0, 1235), at(7, 9999));
        range("content in 1 at", RangesTest::ends, (x, path) -> x.contentIn(1, path), at(0, 1234), at(7, 9999));
        range("content in 59 at", Stores::full, (x, path) -> x.contentIn(59, path), at(0, 1056), at(7, 8055));
        range("lastChange of", RangesTest::ends, ForkHall::lastChange, at(0, 1), at(7, 1));
        range("lastChange in the full store of", Stores::full, ForkHall::lastChange, at(0, 56), at(7, 55));
        range("lastChange in a new object of", ForkHall::new, ForkHall::lastChange, at(0, Check.NO_ELEMENT),
                at(7, Check.NO_ELEMENT));
    }

    private static void otherPath() {
        range("move to", RangesTest::middle, (x, to) -> x.move(3, to), at(0, 3333), at(7, 3333));
        range("move of no file to", RangesTest::middle, (x, to) -> x.move(4, to), at(0, Check.NO_ELEMENT),
                at(7, Check.NO_ELEMENT));
        range("move in the full tree to", Stores::full, (x, to) -> x.move(3, to), at(0, Check.STATE),
                at(7, Check.STATE));
    }

    private static void contents() {
        range("write of", RangesTest::ends, (x, content) -> x.write(7, content), at(0, 9999), at(9999, 9999),
                IllegalArgumentException.class);
        range("write to no file of", ForkHall::new, (x, content) -> x.write(0, content), at(0, -1), at(9999, -1),
                IllegalArgumentException.class);
    }

    private static void newBranch() {
        range("branch", RangesTest::middle, ForkHall::branch, at(0, Check.STATE), at(4, 1));
        CHECK.tells("branch 1", RangesTest::middle, x -> x.branch(1), 1);
        range("branch of a new object", ForkHall::new, ForkHall::branch, at(0, Check.STATE), at(4, 0));
        range("branch of the full store", Stores::full, ForkHall::branch, at(0, Check.STATE), at(4, Check.STATE));
    }

    /** Branch 1 is current, behind 0 and 4. */
    private static ForkHall fullOnOne() {
        ForkHall hall = Stores.full();
        hall.checkOut(4);
        hall.reset(58);
        hall.checkOut(1);
        return hall;
    }

    private static void branches() {
        range("checkOut", RangesTest::fullOnOne, ForkHall::checkOut, at(0, 59), at(4, 58));
        range("checkOut of a new object", ForkHall::new, ForkHall::checkOut, at(0, 0), at(4, Check.NO_ELEMENT));
        range("merge", RangesTest::fullOnOne, ForkHall::merge, at(0, 59), at(4, 58));
        range("merge of a new object", ForkHall::new, ForkHall::merge, at(0, Check.STATE), at(4, Check.NO_ELEMENT));
        range("head", RangesTest::fullOnOne, ForkHall::head, at(0, 59), at(4, 58));
        range("head of a new object", ForkHall::new, ForkHall::head, at(0, 0), at(4, Check.NO_ELEMENT));
    }

    /** Branches 0 and 4 are behind 2, the current one. */
    private static ForkHall fullOnTwo() {
        ForkHall hall = Stores.full();
        hall.reset(20);
        hall.checkOut(4);
        hall.reset(1);
        hall.checkOut(2);
        hall.reset(59);
        return hall;
    }

    private static void rewrittenBranches() {
        range("putOnto", RangesTest::fullOnTwo, ForkHall::putOnto, at(0, 39), at(4, 58));
        range("putOnto of a new object", ForkHall::new, ForkHall::putOnto, at(0, Check.STATE),
                at(4, Check.NO_ELEMENT));
    }

    private static void reset() {
        range("reset to", Stores::fullWithChanges, ForkHall::reset, at(0, 59), at(59, 59));
        range("reset in a store of two to", RangesTest::ends, ForkHall::reset, at(0, 1), at(1, 1));
        range("reset of a new object to", ForkHall::new, ForkHall::reset, at(0, 0), at(0, 0));
    }

    private static void commits() {
        Supplier<ForkHall> full = Stores::full;
        range("contentIn", full, (x, c) -> x.contentIn(c, 0), at(0, Check.NO_ELEMENT), at(59, 1056));
        range("parentOf", full, (x, c) -> x.parentOf(c, 0), at(0, Check.NO_ELEMENT), at(59, 58));
        range("generation", full, ForkHall::generation, at(0, 0), at(59, 59));
        range("isAncestor, the one", full, (x, c) -> x.isAncestor(c, 58), at(0, true), at(59, false));
        range("isAncestor, the other", full, (x, c) -> x.isAncestor(1, c), at(0, false), at(59, true));
        range("isAncestorByWalking, the one", full, (x, c) -> x.isAncestorByWalking(c, 58), at(0, true),
                at(59, false));
        range("isAncestorByWalking, the other", full, (x, c) -> x.isAncestorByWalking(1, c), at(0, false),
                at(59, true));
        range("base, the one", full, (x, c) -> x.base(c, 58), at(0, 0), at(59, 58));
        range("base, the other", full, (x, c) -> x.base(58, c), at(0, 0), at(59, 58));
        range("baseByWalking, the one", full, (x, c) -> x.baseByWalking(c, 58), at(0, 0), at(59, 58));
        range("baseByWalking, the other", full, (x, c) -> x.baseByWalking(58, c), at(0, 0), at(59, 58));
        range("bases, the one", full, (x, c) -> x.bases(c, 58), at(0, 1), at(59, 1));
        range("bases, the other", full, (x, c) -> x.bases(58, c), at(0, 1), at(59, 1));
        range("conflicts, the one", () -> Stores.clashingAt(60), (x, c) -> x.conflicts(c, 2), at(0, 0), at(59, 1));
        range("conflicts, the other", () -> Stores.clashingAt(60), (x, c) -> x.conflicts(2, c), at(0, 0), at(59, 1));
    }

    private static void ofANewObject() {
        Object[] none = at(0, Check.NO_ELEMENT);
        Object[] zero = at(0, 0);
        range("contentIn at first", ForkHall::new, (x, c) -> x.contentIn(c, 0), none, none);
        range("parentOf at first", ForkHall::new, (x, c) -> x.parentOf(c, 0), none, none);
        range("generation at first", ForkHall::new, ForkHall::generation, zero, zero);
        range("isAncestor at first", ForkHall::new, (x, c) -> x.isAncestor(c, 0), at(0, true), at(0, true));
        range("isAncestorByWalking at first", ForkHall::new, (x, c) -> x.isAncestorByWalking(0, c), at(0, true),
                at(0, true));
        range("base at first", ForkHall::new, (x, c) -> x.base(c, 0), zero, zero);
        range("baseByWalking at first", ForkHall::new, (x, c) -> x.baseByWalking(0, c), zero, zero);
        range("bases at first", ForkHall::new, (x, c) -> x.bases(c, 0), at(0, 1), at(0, 1));
        range("conflicts at first", ForkHall::new, (x, c) -> x.conflicts(0, c), zero, zero);
        range("movedTo at first", ForkHall::new, (x, c) -> x.movedTo(c, 0, 0), none, none);
    }

    /** The last of 60 commits moves a file from path 0 to path 7. */
    private static ForkHall movedAtTheEnd() {
        ForkHall hall = Stores.chain(Stores.files(1234));
        for (int made = 2; made < 59; made++) {
            hall.write(3, made * 100);
            hall.commit();
        }
        hall.move(0, 7);
        hall.commit();
        return hall;
    }

    private static void movedTo() {
        Supplier<ForkHall> maker = RangesTest::movedAtTheEnd;
        range("movedTo, the path", maker, (x, path) -> x.movedTo(1, 59, path), at(0, 7), at(7, Check.NO_ELEMENT));
        range("movedTo, the path back", maker, (x, path) -> x.movedTo(59, 1, path), at(0, Check.NO_ELEMENT), at(7, 0));
        range("movedTo, the one", maker, (x, c) -> x.movedTo(c, 1, 7), at(0, Check.NO_ELEMENT), at(59, 0));
        range("movedTo, the other", maker, (x, c) -> x.movedTo(58, c, 0), at(0, Check.NO_ELEMENT), at(59, 7));
    }

    private static void parents() {
        Supplier<ForkHall> maker = () -> {
            ForkHall hall = Stores.mergeableAt(59);
            hall.merge(1);
            return hall;
        };
        range("parentOf 59", maker, (x, which) -> x.parentOf(59, which), at(0, 2), at(1, 58));
        range("parentOf 1", maker, (x, which) -> x.parentOf(1, which), at(0, 0), at(1, Check.NO_ELEMENT));
        range("parentOf 0", maker, (x, which) -> x.parentOf(0, which), at(0, Check.NO_ELEMENT),
                at(1, Check.NO_ELEMENT));
    }

    private static void packedContents() {
        Supplier<ForkHall> maker = () -> Stores.chain(Stores.files(1, 9998, 0, 9999));
        range("depthOf", maker, ForkHall::depthOf, at(0, 1), at(9999, 1), NoSuchElementException.class);
        range("packedFrom", maker, ForkHall::packedFrom, at(0, 1), at(9999, 9998), NoSuchElementException.class);
        Supplier<ForkHall> whole = () -> Stores.chain(Stores.files(0, 9999));
        range("depthOf a whole one", whole, ForkHall::depthOf, at(0, 0), at(9999, 0), NoSuchElementException.class);
        range("packedFrom a whole one", whole, ForkHall::packedFrom, at(0, Check.NO_ELEMENT),
                at(9999, Check.NO_ELEMENT), NoSuchElementException.class);
    }
}
