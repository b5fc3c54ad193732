import java.util.NoSuchElementException;

/** 'Terms', each sentence on packing, and the accounts of promises 27 to 32. */
public final class TermsPackingTest {
    private static final Check CHECK = new Check("TermsPackingTest");
    private static final int NO = Stores.NO_FILE;

    public static void main(String[] args) {
        CHECK.sentence("The contents in the trees of all commits are packed, each one once, in the order of commits,"
                + " and then of paths, in which they come first.");
        allCommits();
        eachOnce();
        order();
        afterRefusedCalls();
        fullestPack();
        CHECK.sentence("A content is packed whole, with a size of 4 and a depth of 0, or by its difference from one"
                + " that was packed before it and has a depth of at most 2, with a size of 1 plus the number of lines"
                + " that are not the same, and a depth that is greater by 1 than that one's: by the difference of the"
                + " least size, if this is less than 4; of several, by that from the content that was packed first.");
        sizes();
        depths();
        leastSize();
        firstOfSeveral();
        CHECK.sentence("Throws `ArithmeticException` if nothing is packed");
        nothingPacked();
        CHECK.sentence("Returns the share of the sum of sizes in what all packed contents would take whole, both"
                + " numbers converted to float.");
        share();
        CHECK.sentence("Returns the mean number of files of the trees of all commits: the sum divided by the number of"
                + " commits, both converted to double.");
        mean();
        CHECK.end();
    }

    private static ForkHall of(int... files) {
        return Stores.chain(files);
    }

    private static void allCommits() {
        CHECK.answers("nothing at first", ForkHall::new, ForkHall::packed, 0);
        ForkHall hall = new ForkHall();
        hall.write(0, 1111);
        CHECK.same("the work tree is not packed", hall.packed(), 0);
        hall.commit();
        CHECK.same("a commit is", hall.packed(), 1);
        hall.reset(0);
        CHECK.same("without a branch as well", hall.packed(), 1);
        hall.write(0, 2222);
        hall.commit();
        CHECK.same("beside another one", hall.packed(), 2);
        hall.erase(0);
        hall.commit();
        CHECK.same("an empty tree has nothing to pack", hall.packed(), 2);
        ForkHall merged = Stores.diverged(Stores.files(1234), Stores.files(9234), Stores.files(1239));
        CHECK.same("before a merge", merged.packed(), 3);
        merged.merge(1);
        CHECK.same("a content that a merge made", merged.packed(), 4);
        CHECK.same("is packed from one of its sides", merged.packedFrom(9239), 9234);
        ForkHall put = Stores.diverged(Stores.files(1234), Stores.files(9234), Stores.files(1239));
        put.putOnto(1);
        CHECK.same("a content that a rewriting made", put.packed(), 4);
        CHECK.same("has a depth", put.depthOf(9239), 2);
    }

    private static void eachOnce() {
        CHECK.answers("eight times the same", () -> of(5, 5, 5, 5, 5, 5, 5, 5), ForkHall::packed, 1);
        CHECK.answers("takes 4", () -> of(5, 5, 5, 5, 5, 5, 5, 5), ForkHall::packSize, 4);
        ForkHall again = Stores.chain(Stores.files(5), Stores.files(6), Stores.files(5), Stores.files(NO, 6));
        CHECK.same("in other commits and paths", again.packed(), 2);
        CHECK.same("no content has the size 1", again.packSize(), 6);
        CHECK.answers("eight contents", () -> of(1, 2, 3, 4, 5, 6, 7, 8), ForkHall::packed, 8);
        CHECK.answers("the least and the greatest content", () -> of(0, 9999), ForkHall::packed, 2);
        CHECK.answers("the full store", Stores::full, ForkHall::packed, 66);
    }

    private static void order() {
        CHECK.answers("the lower path first", () -> of(1111, 1112), x -> x.packedFrom(1112), 1111);
        CHECK.answers("though its content is greater", () -> of(1112, 1111), x -> x.packedFrom(1111), 1112);
        CHECK.answers("the first and the last path", () -> of(1112, NO, NO, NO, NO, NO, NO, 1111),
                x -> x.packedFrom(1111), 1112);
        ForkHall hall = Stores.chain(Stores.files(NO, NO, NO, NO, NO, NO, NO, 1111), Stores.files(1112, 9999));
        CHECK.same("an earlier commit ahead of a lower path", hall.packedFrom(1112), 1111);
        CHECK.refuses("the earlier one is whole", NoSuchElementException.class,
                () -> Stores.chain(Stores.files(NO, 1111), Stores.files(1112)), x -> x.packedFrom(1111));
        ForkHall branches = new ForkHall();
        branches.branch(1);
        branches.checkOut(1);
        Stores.commitTree(branches, 1112);
        branches.checkOut(0);
        Stores.commitTree(branches, 1111);
        CHECK.same("the order of commits, not of branches", branches.packedFrom(1111), 1112);
        ForkHall later = Stores.chain(Stores.files(NO, 1111), Stores.files(1112, 1111), Stores.files(1111, 1112));
        CHECK.same("the path at which it comes first counts", later.packedFrom(1112), 1111);
    }

    private static void afterRefusedCalls() {
        ForkHall hall = Stores.clashingAt(4);
        int before = hall.packed();
        Check.thrownBy(() -> hall.merge(1));
        Check.thrownBy(() -> hall.putOnto(1));
        CHECK.same("refused calls pack nothing", hall.packed(), before);
        CHECK.tells("a rewriting that fails in its last step packs nothing", () -> {
            ForkHall late = Stores.diverged(Stores.files(1234), Stores.files(9234), Stores.files(1239));
            Stores.commitTree(late, 9235);
            Check.thrownBy(() -> late.putOnto(1));
            return late;
        }, x -> x.depthOf(9239), Check.NO_ELEMENT);
    }

    private static void writeAll(ForkHall hall, int first) {
        for (int path = 0; path < 8; path++) {
            hall.write(path, first + path);
        }
    }

    /** 59 trees of 8 files, each content another one; 28 of the trees are made by one rewriting. */
    private static void fullestPack() {
        ForkHall hall = new ForkHall();
        writeAll(hall, 0);
        hall.commit();
        hall.branch(1);
        for (int step = 1; step <= 28; step++) {
            writeAll(hall, 8 * step);
            hall.commit();
        }
        hall.checkOut(1);
        writeAll(hall, 1000);
        hall.commit();
        hall.checkOut(0);
        CHECK.same("a rewriting of 28", hall.putOnto(1), 28);
        writeAll(hall, 2000);
        CHECK.same("the last commit", hall.commit(), 59);
        CHECK.same("all contents", hall.packed(), 59 * 8);
        CHECK.same("the first one", hall.depthOf(0), 0);
        CHECK.same("the second one", hall.packedFrom(1), 0);
        CHECK.same("the first one rewritten", hall.packedFrom(1008), 8);
        CHECK.same("the likest one to the last one rewritten is too deep", hall.depthOf(231), 3);
        CHECK.same("so another one is its source", hall.packedFrom(1231), 31);
        CHECK.same("the last one", hall.packedFrom(2007), 7);
        CHECK.same("the sum of sizes, as the model has it", hall.packSize(), 1046);
        CHECK.sameDouble("the files", hall.meanFiles(), 59.0 * 8.0 / 60.0);
    }

    private static void size(int one, int other, int size, int depth) {
        ForkHall hall = of(one, other);
        String what = other + " after " + one;
        CHECK.same(what + ": size", hall.packSize() - 4, size);
        CHECK.same(what + ": depth", hall.depthOf(other), depth);
        CHECK.same(what + ": from", Check.toldBy(() -> hall.packedFrom(other)),
                size < 4 ? String.valueOf(one) : Check.NO_ELEMENT);
    }

    private static void sizes() {
        CHECK.answers("whole", () -> of(1234), ForkHall::packSize, 4);
        CHECK.answers("whole, content 0", () -> of(0), ForkHall::packSize, 4);
        size(1234, 1235, 2, 1);
        size(1234, 9234, 2, 1);
        size(1234, 1256, 3, 1);
        size(1234, 5634, 3, 1);
        size(1234, 5238, 3, 1);
        size(1234, 1567, 4, 0);
        size(1234, 5674, 4, 0);
        size(1234, 5678, 4, 0);
        size(0, 9999, 4, 0);
        size(0, 9, 2, 1);
        size(0, 99, 3, 1);
        size(0, 999, 4, 0);
        size(9999, 0, 4, 0);
    }

    private static void depths() {
        ForkHall hall = of(1111, 1112, 1122, 1222, 2222);
        CHECK.same("depth 0", hall.depthOf(1111), 0);
        CHECK.same("depth 1", hall.depthOf(1112), 1);
        CHECK.same("depth 2", hall.depthOf(1122), 2);
        CHECK.same("depth 3 from depth 2", hall.depthOf(1222), 3);
        CHECK.same("none from depth 3, though its difference is the least", hall.packedFrom(2222), 1122);
        CHECK.same("which has depth 2", hall.depthOf(2222), 3);
        CHECK.same("with the greater size", hall.packSize(), 4 + 2 + 2 + 2 + 3);
        ForkHall whole = of(1111, 1112, 1122, 1222, 1223, 3223);
        CHECK.same("like a content of depth 3 alone", whole.depthOf(3223), 0);
        CHECK.same("is whole", whole.packSize(), 4 + 2 + 2 + 2 + 3 + 4);
        ForkHall again = of(1111, 1112, 1122, 1222, 1223, 3223, 3233);
        CHECK.same("a whole one begins at 0 again", again.depthOf(3233), 1);
        CHECK.same("and is one to go from", again.packedFrom(3233), 3223);
        for (int content : new int[] {-1, 10000, Integer.MIN_VALUE, Integer.MAX_VALUE, 1113, 0}) {
            CHECK.refuses("depth of " + content, NoSuchElementException.class, () -> of(1111, 1112),
                    x -> x.depthOf(content));
            CHECK.refuses("source of " + content, NoSuchElementException.class, () -> of(1111, 1112),
                    x -> x.packedFrom(content));
        }
        CHECK.refuses("source of a whole one", NoSuchElementException.class, () -> of(1111, 1112),
                x -> x.packedFrom(1111));
    }

    private static void leastSize() {
        CHECK.answers("2 ahead of 3, packed later", () -> of(1111, 1222, 1122), x -> x.packedFrom(1122), 1222);
        CHECK.answers("2 ahead of 3, packed earlier", () -> of(1222, 1111, 1122), x -> x.packedFrom(1122), 1222);
        CHECK.answers("3 ahead of whole, packed later", () -> of(5555, 1111, 1122), x -> x.packedFrom(1122), 1111);
        CHECK.answers("2 though it makes it deeper", () -> of(1111, 1112, 1122), x -> x.depthOf(1122), 2);
        CHECK.answers("3 from depth 0, if there is no 2", () -> of(1111, 1112, 1133), x -> x.packedFrom(1133), 1111);
    }

    private static void firstOfSeveral() {
        CHECK.answers("of two with 2", () -> of(1211, 1121, 1111), x -> x.packedFrom(1111), 1211);
        CHECK.answers("of two with 2, turned", () -> of(1121, 1211, 1111), x -> x.packedFrom(1111), 1121);
        CHECK.answers("of two with 3", () -> of(1122, 2211, 1111), x -> x.packedFrom(1111), 1122);
        CHECK.answers("of seven with 2", () -> of(2111, 3111, 4111, 5111, 6111, 7111, 8111, 1111),
                x -> x.packedFrom(1111), 2111);
        CHECK.answers("a later one is less deep", () -> of(1110, 1101, 1, 1000), x -> x.depthOf(1000), 1);
        CHECK.answers("yet the first one counts", () -> of(1110, 1101, 1, 1000, 0), x -> x.packedFrom(0), 1);
        CHECK.answers("of depth 2", () -> of(1110, 1101, 1, 1000, 0), x -> x.depthOf(0), 3);
        ForkHall hall = Stores.chain(Stores.files(NO, NO, NO, NO, NO, NO, NO, 1211), Stores.files(1121),
                Stores.files(1111));
        CHECK.same("of the earlier commit, not of the lower path", hall.packedFrom(1111), 1211);
    }

    private static void nothingPacked() {
        CHECK.refuses("a new object", ArithmeticException.class, ForkHall::new, ForkHall::packShare);
        CHECK.refuses("a work tree alone", ArithmeticException.class, () -> Stores.withChanges(new ForkHall()),
                ForkHall::packShare);
        CHECK.answers("the sum of sizes of nothing", ForkHall::new, ForkHall::packSize, 0);
    }

    private static void share() {
        CHECK.sameFloat("one whole content", of(1111).packShare(), 1.0f);
        CHECK.sameFloat("two whole contents", of(1111, 2222).packShare(), 1.0f);
        CHECK.sameFloat("6 of 8", of(1111, 1112).packShare(), 0.75f);
        CHECK.sameFloat("7 of 8", of(1111, 1122).packShare(), 0.875f);
        CHECK.sameFloat("8 of 12", of(1111, 1112, 1113).packShare(), 8.0f / 12.0f);
        CHECK.sameFloat("18 of 32", of(1, 2, 3, 4, 5, 6, 7, 8).packShare(), 18.0f / 32.0f);
        ForkHall full = Stores.full();
        CHECK.sameFloat("of the full store", full.packShare(), (float) full.packSize() / (float) (66 * 4));
    }

    private static void mean() {
        CHECK.sameDouble("commit 0 alone", new ForkHall().meanFiles(), 0.0);
        CHECK.sameDouble("commit 0 and an uncommitted file", Stores.withChanges(new ForkHall()).meanFiles(), 0.0);
        CHECK.sameDouble("one of two", of(1111).meanFiles(), 0.5);
        CHECK.sameDouble("eight of two", of(1, 2, 3, 4, 5, 6, 7, 8).meanFiles(), 4.0);
        CHECK.sameDouble("one of three", Stores.chain(Stores.files(1), Stores.files()).meanFiles(), 1.0 / 3.0);
        CHECK.sameDouble("of the full store", Stores.full().meanFiles(), 59.0 * 8.0 / 60.0);
    }
}
