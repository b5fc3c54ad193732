import java.util.NoSuchElementException;
import java.util.function.Consumer;
import java.util.function.Supplier;

/**
 * 'Terms', the sentences on exceptions: each exception of each call by itself, each pair that can apply at once, and
 * behind each refused call that nothing has changed. A pair that can't apply at once is named where it is left out.
 */
public final class TermsExceptionsTest {
    private static final Check CHECK = new Check("TermsExceptionsTest");
    private static final int NO = Stores.NO_FILE;
    private static final int[] NO_PATHS = {-1, 8, Integer.MIN_VALUE, Integer.MAX_VALUE};
    private static final int[] NO_CONTENTS = {-1, 10000, Integer.MIN_VALUE, Integer.MAX_VALUE};
    private static final int[] NO_BRANCHES = {-1, 5, Integer.MIN_VALUE, Integer.MAX_VALUE};
    private static final int[] NO_PARENTS = {-1, 2, Integer.MIN_VALUE, Integer.MAX_VALUE};

    public static void main(String[] args) {
        CHECK.sentence("A method that throws an exception changes nothing. If several exceptions apply, the one that is"
                + " documented first is thrown.");
        write();
        erase();
        move();
        content();
        commit();
        branch();
        checkOut();
        reset();
        merge();
        mergeOfAnAncestor();
        mergeInTheFullStore();
        putOnto();
        putOntoADescendant();
        putOntoInTheFullStore();
        head();
        contentIn();
        parentOf();
        oneCommit();
        twoCommits();
        movedTo();
        lastChange();
        packs();
        CHECK.end();
    }

    private static void index(String what, Supplier<ForkHall> maker, Consumer<ForkHall> call) {
        CHECK.refuses(what, IndexOutOfBoundsException.class, maker, call);
    }

    private static void noElement(String what, Supplier<ForkHall> maker, Consumer<ForkHall> call) {
        CHECK.refuses(what, NoSuchElementException.class, maker, call);
    }

    private static void state(String what, Supplier<ForkHall> maker, Consumer<ForkHall> call) {
        CHECK.refuses(what, IllegalStateException.class, maker, call);
    }

    private static void unsupported(String what, Supplier<ForkHall> maker, Consumer<ForkHall> call) {
        CHECK.refuses(what, UnsupportedOperationException.class, maker, call);
    }

    /** Branch 0 is current with the files 0, 1 and 2; branch 1 can be merged; there are no others. */
    private static ForkHall plain() {
        return Stores.mergeableAt(4);
    }

    private static ForkHall changed() {
        return Stores.withChanges(plain());
    }

    private static ForkHall clashing() {
        return Stores.clashingAt(4);
    }

    /** Branch 1 is behind branch 0, the current one. */
    private static ForkHall ahead() {
        ForkHall hall = Stores.forked(1111, 5678);
        return Stores.fillTo(hall, 4);
    }

    private static ForkHall behind() {
        ForkHall hall = ahead();
        hall.checkOut(1);
        return hall;
    }

    /** Promise 2: no such path; the content is out of range; both. */
    private static void write() {
        for (int path : NO_PATHS) {
            index("write, the path " + path, TermsExceptionsTest::changed, x -> x.write(path, 5));
            for (int content : NO_CONTENTS) {
                index("write, the path " + path + " and the content " + content, TermsExceptionsTest::changed,
                        x -> x.write(path, content));
            }
        }
        for (int content : NO_CONTENTS) {
            CHECK.refuses("write, the content " + content, IllegalArgumentException.class,
                    TermsExceptionsTest::changed, x -> x.write(0, content));
            CHECK.refuses("write to no file, the content " + content, IllegalArgumentException.class,
                    TermsExceptionsTest::changed, x -> x.write(7, content));
        }
    }

    /** Promise 3: no such path, which has no file either; no such file. */
    private static void erase() {
        for (int path : NO_PATHS) {
            index("erase, the path " + path, TermsExceptionsTest::changed, x -> x.erase(path));
            index("erase of a new object, the path " + path, ForkHall::new, x -> x.erase(path));
        }
        noElement("erase, no file", TermsExceptionsTest::changed, x -> x.erase(3));
        noElement("erase, no file of a new object", ForkHall::new, x -> x.erase(0));
        noElement("erase, a file that is erased already", () -> {
            ForkHall hall = plain();
            hall.erase(0);
            return hall;
        }, x -> x.erase(0));
    }

    /** Promise 4: no such path, for either; no file with the path; a file with the other path; each pair of these. */
    private static void move() {
        for (int path : NO_PATHS) {
            index("move, from path " + path, TermsExceptionsTest::changed, x -> x.move(path, 3));
            index("move, to path " + path, TermsExceptionsTest::changed, x -> x.move(0, path));
            index("move, no file to path " + path, TermsExceptionsTest::changed, x -> x.move(3, path));
            index("move, from path " + path + " to a file", TermsExceptionsTest::changed, x -> x.move(path, 0));
            for (int to : NO_PATHS) {
                index("move, from " + path + " to " + to, TermsExceptionsTest::changed, x -> x.move(path, to));
            }
        }
        noElement("move, no file", TermsExceptionsTest::changed, x -> x.move(3, 4));
        noElement("move, no file to itself", TermsExceptionsTest::changed, x -> x.move(3, 3));
        noElement("move, no file to a file", TermsExceptionsTest::changed, x -> x.move(3, 0));
        state("move, to a file", TermsExceptionsTest::changed, x -> x.move(0, 1));
        state("move, to itself", TermsExceptionsTest::changed, x -> x.move(0, 0));
        state("move, to a file with the same content", () -> Stores.chain(Stores.files(5, 5)), x -> x.move(0, 1));
        state("move, in a full tree", Stores::full, x -> x.move(7, 0));
    }

    /** Promise 5: no such path, which has no file either; no such file. */
    private static void content() {
        for (int path : NO_PATHS) {
            index("content, the path " + path, TermsExceptionsTest::changed, x -> x.content(path));
            index("content of a new object, the path " + path, ForkHall::new, x -> x.content(path));
        }
        noElement("content, no file", TermsExceptionsTest::changed, x -> x.content(3));
        noElement("content, no file of a new object", ForkHall::new, x -> x.content(7));
    }

    /** Promise 7: no changes; 60 commits and a new one; no changes with 60 commits. */
    private static void commit() {
        state("commit, no changes", TermsExceptionsTest::plain, ForkHall::commit);
        state("commit, no changes of a new object", ForkHall::new, ForkHall::commit);
        state("commit, no room", Stores::fullWithChanges, ForkHall::commit);
        state("commit, no changes and no room", Stores::full, ForkHall::commit);
    }

    /** Promise 8: out of range; the branch exists. An outer number is of no branch that exists: there is no pair. */
    private static void branch() {
        for (int branch : NO_BRANCHES) {
            index("branch " + branch, TermsExceptionsTest::changed, x -> x.branch(branch));
            index("branch " + branch + ", in the full store", Stores::fullWithChanges, x -> x.branch(branch));
        }
        for (int branch = 0; branch < 5; branch++) {
            int there = branch;
            state("branch " + branch + " exists", Stores::fullWithChanges, x -> x.branch(there));
        }
    }

    /** Promise 9: out of range, without and with changes; no such branch, without and with them; changes. */
    private static void checkOut() {
        for (int branch : NO_BRANCHES) {
            index("checkOut " + branch, TermsExceptionsTest::plain, x -> x.checkOut(branch));
            index("checkOut " + branch + " with changes", TermsExceptionsTest::changed, x -> x.checkOut(branch));
        }
        for (int branch = 2; branch < 5; branch++) {
            int none = branch;
            noElement("checkOut of no branch " + branch, TermsExceptionsTest::plain, x -> x.checkOut(none));
            noElement("checkOut of no branch " + branch + " with changes", TermsExceptionsTest::changed,
                    x -> x.checkOut(none));
        }
        state("checkOut with changes", TermsExceptionsTest::changed, x -> x.checkOut(1));
        state("checkOut of the current branch with changes", TermsExceptionsTest::changed, x -> x.checkOut(0));
        state("checkOut of a branch whose tree the work tree is", () -> {
            ForkHall hall = Stores.diverged(Stores.files(1), Stores.files(2), Stores.files(3));
            hall.write(0, 3);
            return hall;
        }, x -> x.checkOut(1));
    }

    /** Promise 10: no such commit, without and with changes, which are no reason to refuse. */
    private static void reset() {
        for (int commit : new int[] {-1, 4, 5, 59, 60, Integer.MIN_VALUE, Integer.MAX_VALUE}) {
            index("reset to " + commit, TermsExceptionsTest::plain, x -> x.reset(commit));
            index("reset to " + commit + " with changes", TermsExceptionsTest::changed, x -> x.reset(commit));
        }
        index("reset to 1 in a new object", ForkHall::new, x -> x.reset(1));
        index("reset to 60 in the full store", Stores::fullWithChanges, x -> x.reset(60));
    }

    /** Promise 11: out of range, no such branch, changes, a conflict; each pair of these, where both can apply. */
    private static void merge() {
        for (int branch : NO_BRANCHES) {
            index("merge " + branch, TermsExceptionsTest::plain, x -> x.merge(branch));
            index("merge " + branch + " with changes", TermsExceptionsTest::changed, x -> x.merge(branch));
        }
        for (int branch = 2; branch < 5; branch++) {
            int none = branch;
            noElement("merge of no branch " + branch, TermsExceptionsTest::plain, x -> x.merge(none));
            noElement("merge of no branch " + branch + " with changes", TermsExceptionsTest::changed,
                    x -> x.merge(none));
        }
        state("merge with changes", TermsExceptionsTest::changed, x -> x.merge(1));
        state("merge of what is ahead, with changes", () -> Stores.withChanges(behind()), x -> x.merge(0));
        state("merge with a conflict and changes", () -> Stores.withChanges(clashing()), x -> x.merge(1));
        unsupported("merge with a conflict", TermsExceptionsTest::clashing, x -> x.merge(1));
        unsupported("merge with a conflict of new files", () -> Stores.divergedFromNothing(Stores.files(1),
                Stores.files(2)), x -> x.merge(1));
    }

    /** Promise 11: the head of the branch is an ancestor; with changes; with no room. */
    private static void mergeOfAnAncestor() {
        state("merge of an ancestor", TermsExceptionsTest::ahead, x -> x.merge(1));
        state("merge of an ancestor, with changes", () -> Stores.withChanges(ahead()), x -> x.merge(1));
        state("merge of the current branch", TermsExceptionsTest::plain, x -> x.merge(0));
        state("merge of the current branch, with changes", TermsExceptionsTest::changed, x -> x.merge(0));
        state("merge of an equal head", () -> Stores.forked(1, 2), x -> x.merge(1));
        state("merge of a second parent", () -> {
            ForkHall hall = plain();
            hall.merge(1);
            return hall;
        }, x -> x.merge(1));
        state("merge of an ancestor, in the full store", Stores::full, x -> x.merge(1));
        state("merge of an ancestor, in the full store, with changes", Stores::fullWithChanges, x -> x.merge(1));
        state("merge of a new object's branch", ForkHall::new, x -> x.merge(0));
    }

    /** Promise 11: a 61st commit; with each of the other reasons. */
    private static void mergeInTheFullStore() {
        Supplier<ForkHall> room = () -> Stores.mergeableAt(60);
        Supplier<ForkHall> clash = () -> Stores.clashingAt(60);
        unsupported("merge, no room", room, x -> x.merge(1));
        unsupported("merge, no room and a conflict", clash, x -> x.merge(1));
        state("merge, no room, with changes", () -> Stores.withChanges(room.get()), x -> x.merge(1));
        state("merge, no room and a conflict, with changes", () -> Stores.withChanges(clash.get()),
                x -> x.merge(1));
        for (int branch : NO_BRANCHES) {
            index("merge " + branch + ", no room", clash, x -> x.merge(branch));
            index("merge " + branch + ", no room, with changes", () -> Stores.withChanges(clash.get()),
                    x -> x.merge(branch));
        }
        noElement("merge of no branch, no room", clash, x -> x.merge(2));
        noElement("merge of no branch, no room, with changes", () -> Stores.withChanges(clash.get()),
                x -> x.merge(2));
    }

    /** Promise 12: out of range, no such branch, changes, a conflict; each pair of these, where both can apply. */
    private static void putOnto() {
        for (int branch : NO_BRANCHES) {
            index("putOnto " + branch, TermsExceptionsTest::plain, x -> x.putOnto(branch));
            index("putOnto " + branch + " with changes", TermsExceptionsTest::changed, x -> x.putOnto(branch));
        }
        for (int branch = 2; branch < 5; branch++) {
            int none = branch;
            noElement("putOnto no branch " + branch, TermsExceptionsTest::plain, x -> x.putOnto(none));
            noElement("putOnto no branch " + branch + " with changes", TermsExceptionsTest::changed,
                    x -> x.putOnto(none));
        }
        state("putOnto with changes", TermsExceptionsTest::changed, x -> x.putOnto(1));
        state("putOnto an ancestor, with changes", () -> Stores.withChanges(ahead()), x -> x.putOnto(1));
        state("putOnto with a conflict and changes", () -> Stores.withChanges(clashing()), x -> x.putOnto(1));
        unsupported("putOnto with a conflict", TermsExceptionsTest::clashing, x -> x.putOnto(1));
        unsupported("putOnto with a conflict of new files", () -> Stores.divergedFromNothing(Stores.files(1),
                Stores.files(2)), x -> x.putOnto(1));
        unsupported("putOnto with a conflict in the second step", () -> {
            ForkHall hall = Stores.diverged(Stores.files(1111), Stores.files(1112), Stores.files(2111));
            Stores.commitTree(hall, 3112);
            return hall;
        }, x -> x.putOnto(1));
    }

    /** Promise 12: the current head is an ancestor; with changes; with no room. */
    private static void putOntoADescendant() {
        state("putOnto a descendant", TermsExceptionsTest::behind, x -> x.putOnto(0));
        state("putOnto a descendant, with changes", () -> Stores.withChanges(behind()), x -> x.putOnto(0));
        state("putOnto the current branch", TermsExceptionsTest::plain, x -> x.putOnto(0));
        state("putOnto the current branch, with changes", TermsExceptionsTest::changed, x -> x.putOnto(0));
        state("putOnto an equal head", () -> Stores.forked(1, 2), x -> x.putOnto(1));
        state("putOnto a merge of us as its second parent", () -> {
            ForkHall hall = plain();
            hall.checkOut(1);
            hall.merge(0);
            hall.checkOut(0);
            return hall;
        }, x -> x.putOnto(1));
        state("putOnto a descendant, in the full store", () -> {
            ForkHall hall = Stores.full();
            hall.checkOut(1);
            return hall;
        }, x -> x.putOnto(0));
        state("putOnto a descendant, in the full store, with changes", () -> {
            ForkHall hall = Stores.full();
            hall.checkOut(1);
            return Stores.withChanges(hall);
        }, x -> x.putOnto(0));
        state("putOnto a new object's branch", ForkHall::new, x -> x.putOnto(0));
    }

    /** Promise 12: a 61st commit; with each of the other reasons. */
    private static void putOntoInTheFullStore() {
        Supplier<ForkHall> room = () -> Stores.mergeableAt(60);
        Supplier<ForkHall> clash = () -> Stores.clashingAt(60);
        unsupported("putOnto, no room", room, x -> x.putOnto(1));
        unsupported("putOnto, no room and a conflict", clash, x -> x.putOnto(1));
        state("putOnto, no room, with changes", () -> Stores.withChanges(room.get()), x -> x.putOnto(1));
        state("putOnto, no room and a conflict, with changes", () -> Stores.withChanges(clash.get()),
                x -> x.putOnto(1));
        for (int branch : NO_BRANCHES) {
            index("putOnto " + branch + ", no room", clash, x -> x.putOnto(branch));
            index("putOnto " + branch + ", no room, with changes", () -> Stores.withChanges(clash.get()),
                    x -> x.putOnto(branch));
        }
        noElement("putOnto no branch, no room", clash, x -> x.putOnto(2));
        noElement("putOnto no branch, no room, with changes", () -> Stores.withChanges(clash.get()),
                x -> x.putOnto(2));
    }

    /** Promise 14: out of range; no such branch. An outer number is of no branch, so there is no other pair. */
    private static void head() {
        for (int branch : NO_BRANCHES) {
            index("head " + branch, TermsExceptionsTest::changed, x -> x.head(branch));
        }
        for (int branch = 2; branch < 5; branch++) {
            int none = branch;
            noElement("head of no branch " + branch, TermsExceptionsTest::changed, x -> x.head(none));
        }
    }

    private static int[] noCommits(int commits) {
        return new int[] {-1, commits, 60, 64, Integer.MIN_VALUE, Integer.MAX_VALUE};
    }

    /** Promise 16: no such commit; no such path; both; no such file. */
    private static void contentIn() {
        for (int commit : noCommits(4)) {
            index("contentIn, the commit " + commit, TermsExceptionsTest::changed, x -> x.contentIn(commit, 0));
            for (int path : NO_PATHS) {
                index("contentIn, the commit " + commit + " and the path " + path, TermsExceptionsTest::changed,
                        x -> x.contentIn(commit, path));
            }
        }
        for (int path : NO_PATHS) {
            index("contentIn, the path " + path, TermsExceptionsTest::changed, x -> x.contentIn(3, path));
            index("contentIn, the path " + path + " of the empty tree", TermsExceptionsTest::changed,
                    x -> x.contentIn(0, path));
        }
        noElement("contentIn, no file", TermsExceptionsTest::changed, x -> x.contentIn(3, 7));
        noElement("contentIn, a file of the work tree alone", TermsExceptionsTest::changed, x -> x.contentIn(2, 6));
        noElement("contentIn, no file of the empty tree", ForkHall::new, x -> x.contentIn(0, 0));
    }

    /** Promise 17: no such commit; neither 0 nor 1; both; no such parent; neither 0 nor 1 of a commit without any. */
    private static void parentOf() {
        for (int commit : noCommits(4)) {
            index("parentOf, the commit " + commit, TermsExceptionsTest::changed, x -> x.parentOf(commit, 0));
            for (int which : NO_PARENTS) {
                index("parentOf, the commit " + commit + " and " + which, TermsExceptionsTest::changed,
                        x -> x.parentOf(commit, which));
            }
        }
        for (int which : NO_PARENTS) {
            index("parentOf, " + which, TermsExceptionsTest::changed, x -> x.parentOf(1, which));
            index("parentOf, " + which + " of commit 0, which has none", TermsExceptionsTest::changed,
                    x -> x.parentOf(0, which));
        }
        noElement("parentOf, no first parent", TermsExceptionsTest::changed, x -> x.parentOf(0, 0));
        noElement("parentOf, no second parent of commit 0", TermsExceptionsTest::changed, x -> x.parentOf(0, 1));
        noElement("parentOf, no second parent", TermsExceptionsTest::changed, x -> x.parentOf(3, 1));
    }

    /** Promise 18: no such commit. */
    private static void oneCommit() {
        for (int commit : noCommits(4)) {
            index("generation of " + commit, TermsExceptionsTest::changed, x -> x.generation(commit));
        }
        for (int commit : noCommits(1)) {
            index("generation of " + commit + " in a new object", ForkHall::new, x -> x.generation(commit));
        }
    }

    /** A question about two commits. */
    private interface OfTwo {
        void ask(ForkHall hall, int commit, int other);
    }

    private static void twoCommits(String name, OfTwo question) {
        for (int commit : noCommits(4)) {
            index(name + " of " + commit + " and 3", TermsExceptionsTest::changed, x -> question.ask(x, commit, 3));
            index(name + " of 0 and " + commit, TermsExceptionsTest::changed, x -> question.ask(x, 0, commit));
            index(name + " of " + commit + " twice", TermsExceptionsTest::changed,
                    x -> question.ask(x, commit, commit));
        }
        index(name + " of -1 and 4", TermsExceptionsTest::changed, x -> question.ask(x, -1, 4));
        index(name + " of 4 and -1", TermsExceptionsTest::changed, x -> question.ask(x, 4, -1));
        index(name + " of 60 and 59 in the full store", Stores::full, x -> question.ask(x, 60, 59));
        index(name + " of 59 and 60 in the full store", Stores::full, x -> question.ask(x, 59, 60));
        CHECK.changesNothing(name + " that is answered", TermsExceptionsTest::changed, x -> question.ask(x, 2, 3));
    }

    /** Promises 19 to 25: no such commit, for either, and for both. */
    private static void twoCommits() {
        twoCommits("isAncestor", ForkHall::isAncestor);
        twoCommits("isAncestorByWalking", ForkHall::isAncestorByWalking);
        twoCommits("base", ForkHall::base);
        twoCommits("baseByWalking", ForkHall::baseByWalking);
        twoCommits("bases", ForkHall::bases);
        twoCommits("conflicts", ForkHall::conflicts);
        twoCommits("movedTo", (hall, commit, other) -> hall.movedTo(commit, other, 0));
    }

    /** Promise 24: no such commit, for either; no such path; each pair; not moved. */
    private static void movedTo() {
        for (int path : NO_PATHS) {
            index("movedTo, the path " + path, TermsExceptionsTest::changed, x -> x.movedTo(1, 2, path));
            index("movedTo, the path " + path + " of the empty tree", TermsExceptionsTest::changed,
                    x -> x.movedTo(0, 0, path));
            for (int commit : noCommits(4)) {
                index("movedTo, the commit " + commit + " and the path " + path, TermsExceptionsTest::changed,
                        x -> x.movedTo(commit, 2, path));
                index("movedTo, the other commit " + commit + " and the path " + path, TermsExceptionsTest::changed,
                        x -> x.movedTo(1, commit, path));
                index("movedTo, both commits " + commit + " and the path " + path, TermsExceptionsTest::changed,
                        x -> x.movedTo(commit, commit, path));
            }
        }
        index("movedTo, a path without a file of no commit", TermsExceptionsTest::changed, x -> x.movedTo(4, 2, 7));
        index("movedTo, a path without a file to no commit", TermsExceptionsTest::changed, x -> x.movedTo(2, 4, 7));
        Supplier<ForkHall> moved = () -> Stores.chain(Stores.files(1234, 5678), Stores.files(NO, 5678, 1235));
        CHECK.tells("movedTo, a path that was moved", moved, x -> x.movedTo(1, 2, 0), 2);
        noElement("movedTo, a path that stays", moved, x -> x.movedTo(1, 2, 1));
        noElement("movedTo, a path without a file", moved, x -> x.movedTo(1, 2, 7));
        noElement("movedTo, a path that is new", moved, x -> x.movedTo(1, 2, 2));
        noElement("movedTo, in one tree", moved, x -> x.movedTo(1, 1, 0));
        noElement("movedTo, a path that is gone", () -> Stores.chain(Stores.files(1234, 5678), Stores.files(NO, 5678)),
                x -> x.movedTo(1, 2, 0));
    }

    /** Promise 26: no such path; no such commit. */
    private static void lastChange() {
        for (int path : NO_PATHS) {
            index("lastChange of " + path, TermsExceptionsTest::changed, x -> x.lastChange(path));
            index("lastChange of " + path + " in a new object", ForkHall::new, x -> x.lastChange(path));
        }
        noElement("lastChange, never changed", TermsExceptionsTest::changed, x -> x.lastChange(7));
        noElement("lastChange, changed in the work tree alone", TermsExceptionsTest::changed, x -> x.lastChange(6));
        noElement("lastChange in a new object", ForkHall::new, x -> x.lastChange(0));
        noElement("lastChange on another branch alone", () -> Stores.mergeableAt(5), x -> x.lastChange(7));
    }

    /** Promises 28, 29 and 31: not packed; packed whole; nothing is packed. */
    private static void packs() {
        for (int content : new int[] {-1, 10000, 6060, 0, 9999, Integer.MIN_VALUE, Integer.MAX_VALUE}) {
            noElement("depthOf " + content, TermsExceptionsTest::changed, x -> x.depthOf(content));
            noElement("packedFrom " + content, TermsExceptionsTest::changed, x -> x.packedFrom(content));
        }
        noElement("depthOf in a new object", ForkHall::new, x -> x.depthOf(0));
        noElement("packedFrom in a new object", ForkHall::new, x -> x.packedFrom(0));
        noElement("packedFrom, a whole one", TermsExceptionsTest::changed, x -> x.packedFrom(1111));
        CHECK.refuses("packShare in a new object", ArithmeticException.class, ForkHall::new, ForkHall::packShare);
        CHECK.refuses("packShare with a work tree alone", ArithmeticException.class,
                () -> Stores.withChanges(new ForkHall()), ForkHall::packShare);
    }
}
