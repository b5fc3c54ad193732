import java.util.ArrayList;
import java.util.List;
import java.util.function.Function;
import java.util.function.Supplier;

/** Each call of the empty store, a new object, and of the full one: 60 commits, 5 branches and 8 files. */
public final class EmptyAndFullTest {
    private static final Check CHECK = new Check("EmptyAndFullTest");
    private static final String EMPTY = "-,-,-,-,-,-,-,-";
    private static final String FULL = "1056,2057,3058,4059,5052,6053,7054,8055";

    public static void main(String[] args) {
        CHECK.sentence("`ForkHall()`: Creates a store with commit 0 and branch 0.");
        newObject();
        CHECK.sentence("the empty store: the work tree");
        emptyWorkTree();
        CHECK.sentence("the empty store: commits and branches");
        emptyBranches();
        CHECK.sentence("the empty store: trees and histories");
        emptyHistories();
        CHECK.sentence("the empty store: packing and accounts");
        emptyPacks();
        CHECK.sentence("the full store: the work tree");
        fullWorkTree();
        CHECK.sentence("the full store: commits and branches");
        fullBranches();
        CHECK.sentence("the full store: trees and histories");
        fullHistories();
        CHECK.sentence("the full store: packing and accounts");
        fullPacks();
        CHECK.sentence("Its calls are those of somebody who works with one store: files are written, erased and moved,"
                + " committed, branched and merged; all others are questions about commits, paths and packs.");
        questions("a new object", ForkHall::new);
        questions("the full store", Stores::fullWithChanges);
        questions("a store with a conflict", () -> Stores.withChanges(Stores.clashingAt(5)));
        CHECK.sentence("An object is used for at most 512 calls after it has been made; what later calls answer is"
                + " free.");
        lastCalls();
        CHECK.end();
    }

    private static void empty(String what, Function<ForkHall, Object> call, Object due) {
        CHECK.tells(what, ForkHall::new, call, due);
    }

    private static void full(String what, Function<ForkHall, Object> call, Object due) {
        CHECK.tells(what, Stores::full, call, due);
    }

    private static void newObject() {
        empty("one commit", ForkHall::commits, 1);
        empty("with an empty tree", x -> State.tree(x, 0), EMPTY);
        empty("and no parents", x -> State.parents(x, 0), "-,-");
        empty("branch 0 has it", x -> x.head(0), 0);
        empty("and is current", ForkHall::currentBranch, 0);
        for (int branch = 1; branch < 5; branch++) {
            int none = branch;
            empty("no branch " + branch, x -> x.head(none), Check.NO_ELEMENT);
        }
        empty("an empty work tree", State::workTree, EMPTY);
        ForkHall used = Stores.full();
        ForkHall other = new ForkHall();
        CHECK.same("a further object is new as well", State.of(other), State.of(new ForkHall()));
        other.write(0, 1);
        CHECK.same("and leaves the first one", State.workTree(used), FULL);
    }

    private static void emptyWorkTree() {
        empty("write", x -> x.write(0, 0), -1);
        empty("erase", x -> x.erase(0), Check.NO_ELEMENT);
        empty("move", x -> x.move(0, 1), Check.NO_ELEMENT);
        empty("content", x -> x.content(7), Check.NO_ELEMENT);
        empty("changedPaths", ForkHall::changedPaths, 0);
    }

    private static void emptyBranches() {
        empty("commit", ForkHall::commit, Check.STATE);
        empty("branch 0", x -> x.branch(0), Check.STATE);
        empty("branch 1", x -> x.branch(1), 0);
        empty("branch 4", x -> x.branch(4), 0);
        empty("checkOut 0", x -> x.checkOut(0), 0);
        empty("checkOut 1", x -> x.checkOut(1), Check.NO_ELEMENT);
        empty("reset", x -> x.reset(0), 0);
        empty("merge 0", x -> x.merge(0), Check.STATE);
        empty("merge 1", x -> x.merge(1), Check.NO_ELEMENT);
        empty("putOnto 0", x -> x.putOnto(0), Check.STATE);
        empty("putOnto 1", x -> x.putOnto(1), Check.NO_ELEMENT);
        empty("the first commit", x -> {
            x.write(0, 0);
            return x.commit();
        }, 1);
        empty("merge of another branch with commit 0", x -> {
            x.branch(4);
            return x.merge(4);
        }, Check.STATE);
        empty("putOnto another branch with commit 0", x -> {
            x.branch(4);
            return x.putOnto(4);
        }, Check.STATE);
        empty("checkOut of another branch with commit 0", x -> {
            x.branch(4);
            return x.checkOut(4);
        }, 0);
    }

    private static void emptyHistories() {
        empty("contentIn", x -> x.contentIn(0, 0), Check.NO_ELEMENT);
        empty("parentOf", x -> x.parentOf(0, 0), Check.NO_ELEMENT);
        empty("the second parent", x -> x.parentOf(0, 1), Check.NO_ELEMENT);
        empty("generation", x -> x.generation(0), 0);
        empty("isAncestor", x -> x.isAncestor(0, 0), true);
        empty("isAncestorByWalking", x -> x.isAncestorByWalking(0, 0), true);
        empty("base", x -> x.base(0, 0), 0);
        empty("baseByWalking", x -> x.baseByWalking(0, 0), 0);
        empty("bases", x -> x.bases(0, 0), 1);
        empty("movedTo", x -> x.movedTo(0, 0, 0), Check.NO_ELEMENT);
        empty("conflicts", x -> x.conflicts(0, 0), 0);
        empty("lastChange", x -> x.lastChange(0), Check.NO_ELEMENT);
    }

    private static void emptyPacks() {
        empty("packed", ForkHall::packed, 0);
        empty("depthOf", x -> x.depthOf(0), Check.NO_ELEMENT);
        empty("packedFrom", x -> x.packedFrom(0), Check.NO_ELEMENT);
        empty("packSize", ForkHall::packSize, 0);
        empty("packShare", ForkHall::packShare, Check.ARITHMETIC);
        empty("meanFiles", ForkHall::meanFiles, 0.0);
    }

    private static void fullWorkTree() {
        full("the files", State::workTree, FULL);
        full("write", x -> x.write(0, 0), 1056);
        full("erase", x -> x.erase(7), 8055);
        for (int path = 0; path < 8; path++) {
            int to = path;
            full("move to " + path, x -> x.move(0, to), Check.STATE);
        }
        full("move to the one free path", x -> {
            x.erase(7);
            return x.move(0, 7);
        }, 1056);
        full("content", x -> x.content(7), 8055);
        full("changedPaths", ForkHall::changedPaths, 0);
        full("changedPaths with no files", x -> {
            Stores.setWork(x);
            return x.changedPaths();
        }, 8);
    }

    private static void fullBranches() {
        full("commit", ForkHall::commit, Check.STATE);
        full("commit of a new tree", x -> {
            x.erase(0);
            return x.commit();
        }, Check.STATE);
        full("commit of a tree that is there", x -> {
            x.reset(58);
            x.write(3, 4059);
            return x.commit();
        }, 59);
        for (int branch = 0; branch < 5; branch++) {
            int there = branch;
            full("branch " + branch, x -> x.branch(there), Check.STATE);
            full("head of " + branch, x -> x.head(there), new int[] {59, 1, 20, 40, 59}[branch]);
            full("checkOut " + branch, x -> x.checkOut(there), new int[] {59, 1, 20, 40, 59}[branch]);
            full("merge " + branch, x -> x.merge(there), Check.STATE);
        }
        full("reset to the first", x -> x.reset(0) + " " + State.workTree(x), "59 " + EMPTY);
        full("reset to the last", x -> x.reset(59) + " " + State.workTree(x), "59 " + FULL);
        full("merge forward", x -> x.checkOut(1) + " " + x.merge(0) + " " + State.workTree(x), "1 59 " + FULL);
        full("putOnto what is behind", x -> x.putOnto(1) + " " + x.head(0) + " " + x.commits(), "58 59 60");
        full("putOnto what is ahead", x -> {
            x.checkOut(1);
            return x.putOnto(0);
        }, Check.STATE);
        full("currentBranch", x -> x.checkOut(4) + " " + x.currentBranch(), "59 4");
        full("commits", ForkHall::commits, 60);
        CHECK.tells("merge with no room", () -> Stores.mergeableAt(60), x -> x.merge(1), Check.UNSUPPORTED);
        CHECK.tells("putOnto with no room", () -> Stores.mergeableAt(60), x -> x.putOnto(1), Check.UNSUPPORTED);
    }

    private static void fullHistories() {
        full("contentIn", x -> x.contentIn(59, 7), 8055);
        full("parentOf", x -> x.parentOf(59, 0), 58);
        full("generation", x -> x.generation(59), 59);
        full("isAncestor", x -> x.isAncestor(0, 59), true);
        full("isAncestor, turned", x -> x.isAncestor(59, 0), false);
        full("isAncestorByWalking", x -> x.isAncestorByWalking(0, 59), true);
        full("isAncestorByWalking, turned", x -> x.isAncestorByWalking(59, 0), false);
        full("base", x -> x.base(59, 58), 58);
        full("baseByWalking", x -> x.baseByWalking(59, 58), 58);
        full("bases", x -> x.bases(59, 58), 1);
        full("movedTo", x -> x.movedTo(1, 59, 0), Check.NO_ELEMENT);
        full("conflicts", x -> x.conflicts(1, 59), 0);
        for (int path = 0; path < 8; path++) {
            int place = path;
            full("lastChange of " + path, x -> x.lastChange(place), path < 4 ? 56 + path : 48 + path);
        }
        full("lastChange of a file never changed again", x -> {
            x.checkOut(1);
            return x.lastChange(7);
        }, 1);
    }

    private static void fullPacks() {
        full("packed", ForkHall::packed, 66);
        full("depthOf the first", x -> x.depthOf(1000), 0);
        full("depthOf the last", x -> x.depthOf(4059), 2);
        full("packedFrom the last", x -> x.packedFrom(4059), 4000);
        full("packedFrom the first", x -> x.packedFrom(1000), Check.NO_ELEMENT);
        full("meanFiles", ForkHall::meanFiles, 59.0 * 8.0 / 60.0);
        full("packShare and packSize", x -> x.packShare() == (float) x.packSize() / 264.0f, true);
    }

    /** A question changes nothing, whether it is answered or refused. */
    private static void questions(String what, Supplier<ForkHall> maker) {
        ForkHall asked = maker.get();
        int last = asked.commits() - 1;
        int content = last > 0 ? asked.contentIn(last, 0) : 0;
        question(what + ": content", maker, x -> x.content(0));
        question(what + ": changedPaths", maker, ForkHall::changedPaths);
        question(what + ": currentBranch", maker, ForkHall::currentBranch);
        question(what + ": head", maker, x -> x.head(1));
        question(what + ": commits", maker, ForkHall::commits);
        question(what + ": contentIn", maker, x -> x.contentIn(last, 0));
        question(what + ": parentOf", maker, x -> x.parentOf(last, 0));
        question(what + ": generation", maker, x -> x.generation(last));
        question(what + ": isAncestor", maker, x -> x.isAncestor(2, last));
        question(what + ": isAncestorByWalking", maker, x -> x.isAncestorByWalking(2, last));
        question(what + ": base", maker, x -> x.base(2, last));
        question(what + ": baseByWalking", maker, x -> x.baseByWalking(2, last));
        question(what + ": bases", maker, x -> x.bases(2, last));
        question(what + ": movedTo", maker, x -> x.movedTo(2, last, 0));
        question(what + ": conflicts", maker, x -> x.conflicts(2, last));
        question(what + ": conflicts, turned", maker, x -> x.conflicts(last, 2));
        question(what + ": lastChange", maker, x -> x.lastChange(0));
        question(what + ": packed", maker, ForkHall::packed);
        question(what + ": depthOf", maker, x -> x.depthOf(content));
        question(what + ": packedFrom", maker, x -> x.packedFrom(content));
        question(what + ": packSize", maker, ForkHall::packSize);
        question(what + ": packShare", maker, ForkHall::packShare);
        question(what + ": meanFiles", maker, ForkHall::meanFiles);
    }

    private static void question(String what, Supplier<ForkHall> maker, Function<ForkHall, Object> question) {
        CHECK.changesNothing(what, maker, question::apply);
        ForkHall asked = maker.get();
        String first = Check.toldBy(() -> question.apply(asked));
        CHECK.same(what + ", asked again", Check.toldBy(() -> question.apply(asked)), first);
    }

    /** A new content with each call, and a commit where there is room for one: the last calls answer as the first. */
    private static void lastCalls() {
        ForkHall hall = new ForkHall();
        List<Integer> answers = new ArrayList<>();
        for (int call = 1; call <= 512; call++) {
            answers.add(call % 8 == 0 && call < 480 ? hall.commit() : hall.write(call % 7, 19 * call));
        }
        CHECK.same("the first commit", answers.get(7), 1);
        CHECK.same("the last commit", answers.get(471), 59);
        CHECK.same("the first write", answers.get(0), -1);
        CHECK.same("the 511th call", answers.get(510), 504 * 19);
        CHECK.same("the 512th call", answers.get(511), 505 * 19);
    }
}
