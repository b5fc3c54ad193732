import java.util.Arrays;

/** 'Terms', each sentence on merging trees. */
public final class TermsMergingTreesTest {
    private static final Check CHECK = new Check("TermsMergingTreesTest");
    private static final int NO = Stores.NO_FILE;
    private static final int OUR_MARK = 7007;
    private static final int THEIR_MARK = 8008;
    private static final String CLASH = "X";
    private static final String NOWHERE = "-";
    private static final String[] SIDES = {"0:1234", "0:1235", "0:9234", "0:1236", "1:1234", "1:1235", "1:9234",
        "2:1234", NOWHERE, "0:5678"};
    /** What becomes of the file 0:1234, if one side has made it the row's first and the other the column's. */
    private static final String[] DUE = {
        "0:1234 0:1235 0:9234 0:1236 1:1234 1:1235 1:9234 2:1234 - 0:5678",
        "0:1235 0:9235 X 1:1235 1:1235 1:9235 2:1235 X X",
        "0:9234 0:9236 1:9234 1:9235 1:9234 2:9234 X X",
        "0:1236 1:1236 X 1:9236 2:1236 X X",
        "1:1234 1:1235 1:9234 X X 1:5678",
        "1:1235 1:9235 X X X",
        "1:9234 X X X",
        "2:1234 X 2:5678",
        "- X",
        "0:5678",
    };

    public static void main(String[] args) {
        CHECK.sentence("A tree of ours and one of theirs are merged over a base tree.");
        baseTrees();
        CHECK.sentence("Each file of the base is followed: on either side, its place is its path, or the path to which"
                + " it was moved, or nowhere, if it is gone without a move.");
        eachPairOfSides();
        followed();
        CHECK.sentence("If it is nowhere on one side, it is nowhere in the result if the other side has it nowhere as"
                + " well, or has its place and content unchanged, and otherwise it is a conflict.");
        nowhere();
        CHECK.sentence("If it has a place on both sides, its place in the result is the one that was changed, if only"
                + " one side changed it, or the same one, if both have the same; otherwise it is a conflict.");
        places();
        CHECK.sentence("Each line of its content is the one that was changed, if only one side changed it, or the same"
                + " one, if both have the same; otherwise the file is a conflict.");
        lines();
        manyLines();
        CHECK.sentence("New files that are not moves come to the result with their paths and contents; if both sides"
                + " have one with the same path, they are one file if their contents are the same, and otherwise the"
                + " path is a conflict.");
        newFiles();
        newFilesOnTheSamePath();
        CHECK.sentence("A file that is a conflict has no place in the result.");
        noPlace();
        CHECK.sentence("Each path that the result would have for more than one file is a conflict, too, and counts"
                + " once.");
        crowdedPaths();
        mostConflicts();
        CHECK.end();
    }

    private static int[] files(int... contents) {
        return contents;
    }

    private static String text(int... files) {
        int[] all = Arrays.copyOf(files, 8);
        Arrays.fill(all, files.length, 8, NO);
        return Arrays.toString(all).replaceAll("[\\[\\] ]", "").replace("-1", "-");
    }

    /** Both ways round: the tree that the merge makes, and no conflict. */
    private static void merges(String what, int[] base, int[] ours, int[] theirs, int... due) {
        mergesOne(what, base, ours, theirs, text(due));
        mergesOne(what + ", turned", base, theirs, ours, text(due));
    }

    private static void mergesOne(String what, int[] base, int[] ours, int[] theirs, String due) {
        ForkHall hall = Stores.diverged(base, ours, theirs);
        CHECK.same(what + ": conflicts", hall.conflicts(2, 3), 0);
        CHECK.same(what + ": merge", Check.toldBy(() -> hall.merge(1)), "4");
        CHECK.same(what + ": tree", State.tree(hall, hall.head(0)), due);
        CHECK.same(what + ": work tree", State.workTree(hall), due);
    }

    /** Both ways round: the number of conflicts, and a merge that is refused. */
    private static void clashes(String what, int[] base, int[] ours, int[] theirs, int due) {
        ForkHall hall = Stores.diverged(base, ours, theirs);
        CHECK.same(what + ": conflicts", hall.conflicts(2, 3), due);
        CHECK.same(what + ": conflicts, turned", hall.conflicts(3, 2), due);
        CHECK.refuses(what, UnsupportedOperationException.class, () -> Stores.diverged(base, ours, theirs),
                x -> x.merge(1));
        CHECK.refuses(what + ", turned", UnsupportedOperationException.class,
                () -> Stores.diverged(base, theirs, ours), x -> x.merge(1));
    }

    private static void baseTrees() {
        ForkHall empty = Stores.divergedFromNothing(files(1111), files(NO, 2222));
        CHECK.same("over the empty tree: conflicts", empty.conflicts(1, 2), 0);
        CHECK.same("over the empty tree: merge", empty.merge(1), 3);
        CHECK.same("over the empty tree: both", State.workTree(empty), text(1111, 2222));
        ForkHall alike = Stores.divergedFromNothing(files(1111), files(1111, 2222));
        CHECK.same("over the empty tree: conflicts of like files", alike.conflicts(1, 2), 0);
        CHECK.tells("over the empty tree: no line is merged", () -> Stores.divergedFromNothing(files(1234),
                files(1235)), x -> x.conflicts(1, 2), 1);
        ForkHall full = Stores.full();
        CHECK.same("a full tree with itself", full.conflicts(59, 59), 0);
        CHECK.same("the empty tree with itself", full.conflicts(0, 0), 0);
        CHECK.same("over ours", full.conflicts(1, 59), 0);
        CHECK.same("over theirs", full.conflicts(59, 0), 0);
        ForkHall toNothing = Stores.diverged(files(1111), files(), files(1111, 2222));
        toNothing.checkOut(1);
        Stores.commitTree(toNothing);
        toNothing.checkOut(0);
        CHECK.same("two empty trees: merge", toNothing.merge(1), 5);
        CHECK.same("two empty trees: the empty tree", State.workTree(toNothing), text());
        merges("full trees", files(1111, 2222, 3333, 4444, 5555, 6666, 7777, 8888),
                files(1112, 2222, 3333, 4444, 5555, 6666, 7777, 8888),
                files(1111, 2222, 3333, 4444, 5555, 6666, 7777, 8880), 1112, 2222, 3333, 4444, 5555, 6666, 7777, 8880);
    }

    private static int[] withMark(String file, int[] paths, int markPath, int mark) {
        int[] tree = {NO, NO, NO, NO, NO, NO, NO, NO};
        if (!file.equals(NOWHERE)) {
            tree[paths[file.charAt(0) - '0']] = Integer.parseInt(file.substring(2));
        }
        if (markPath >= 0) {
            tree[markPath] = mark;
        }
        return tree;
    }

    /** A new file of each side keeps the two commits apart. */
    private static void eachPairOfSides() {
        int[] low = {0, 1, 2};
        int[] high = {7, 6, 5};
        for (int one = 0; one < SIDES.length; one++) {
            String[] due = DUE[one].split(" ");
            for (int other = one; other < SIDES.length; other++) {
                pairOfSides(SIDES[one], SIDES[other], due[other - one], low, 6, 7);
                pairOfSides(SIDES[one], SIDES[other], due[other - one], high, 1, 0);
            }
        }
    }

    private static void pairOfSides(String one, String other, String due, int[] paths, int ourMark, int theirMark) {
        String what = one + " and " + other + " from path " + paths[0];
        int[] base = withMark(SIDES[0], paths, -1, 0);
        int[] ours = withMark(one, paths, ourMark, OUR_MARK);
        int[] theirs = withMark(other, paths, theirMark, THEIR_MARK);
        if (due.equals(CLASH)) {
            clashes(what, base, ours, theirs, 1);
            return;
        }
        int[] merged = withMark(due, paths, ourMark, OUR_MARK);
        merged[theirMark] = THEIR_MARK;
        merges(what, base, ours, theirs, merged);
    }

    /** The base is compared with the head's tree alone, not step by step. */
    private static void followed() {
        ForkHall hall = Stores.forked(1234);
        Stores.commitTree(hall, NO, 1235);
        Stores.commitTree(hall, NO, NO, 1245);
        hall.checkOut(1);
        Stores.commitTree(hall, 1234, NO, NO, 7007);
        hall.checkOut(0);
        CHECK.same("two moves with two lines are none", hall.conflicts(3, 4), 0);
        hall.merge(1);
        CHECK.same("the old file is nowhere, the new one is new", State.workTree(hall), text(NO, NO, 1245, 7007));
        ForkHall changed = Stores.forked(1234);
        Stores.commitTree(changed, NO, 1235);
        Stores.commitTree(changed, NO, NO, 1245);
        changed.checkOut(1);
        Stores.commitTree(changed, 1236);
        CHECK.same("so a line of the other side is a conflict", changed.conflicts(3, 4), 1);
        ForkHall far = Stores.forked(1234);
        Stores.commitTree(far, NO, 1235);
        Stores.commitTree(far, NO, NO, 1234);
        far.checkOut(1);
        Stores.commitTree(far, 9234);
        far.checkOut(0);
        far.merge(1);
        CHECK.same("two moves are one", State.workTree(far), text(NO, NO, 9234));
        merges("moved there and back is not moved", files(1234, 5678), files(1234, 5679), files(9234, 5678),
                9234, 5679);
        merges("eight followed", files(1110, 2220, 3330, 4440), files(NO, NO, NO, NO, 1110, 2220, 3330, 4440),
                files(1119, 2229, 3339, 4449), NO, NO, NO, NO, 1119, 2229, 3339, 4449);
    }

    private static void nowhere() {
        merges("nowhere on both sides", files(1234, 5678), files(NO, 5678, 1), files(NO, 5678, NO, 2),
                NO, 5678, 1, 2);
        merges("nowhere and unchanged", files(1234, 5678), files(NO, 5678), files(1234, 5678, 1), NO, 5678, 1);
        merges("nowhere and unchanged, at the last path", files(1, NO, NO, NO, NO, NO, NO, 1234), files(1),
                files(1, 5678, NO, NO, NO, NO, NO, 1234), 1, 5678);
        merges("nowhere, content 0 unchanged", files(0, 5678), files(NO, 5678), files(0, 5678, 7), NO, 5678, 7);
        merges("all nowhere", files(1111, 2222, 3333, 4444, 5555, 6666, 7777, 8888), files(),
                files(1111, 2222, 3333, 4444, 5555, 6666, 7777), new int[0]);
        for (int content : files(9234, 1934, 1294, 1239, 9999, 0)) {
            clashes("nowhere and written as " + content, files(1234, 5678), files(NO, 5678), files(content, 5678), 1);
        }
        clashes("nowhere and moved", files(1234, 5678), files(NO, 5678), files(NO, 5678, 1234), 1);
        clashes("nowhere and moved with a line", files(1234, 5678), files(NO, 5678), files(NO, 5678, 1235), 1);
        clashes("nowhere and written, at the last path", files(1, NO, NO, NO, NO, NO, NO, 1234), files(1),
                files(1, NO, NO, NO, NO, NO, NO, 1235), 1);
        clashes("each one nowhere on another side", files(1234, 5678), files(NO, 5679), files(1235), 2);
        merges("gone with an unlike file elsewhere", files(1234), files(NO, 1299), files(1234, NO, 1),
                NO, 1299, 1);
        clashes("which is not followed", files(1234), files(NO, 1299), files(1235), 1);
    }

    private static void places() {
        for (int to = 1; to < 8; to++) {
            int[] moved = {NO, NO, NO, NO, NO, NO, NO, NO};
            moved[to] = 1234;
            int[] due = moved.clone();
            due[to] = 1235;
            merges("one side moved it to " + to, files(1234), moved, files(1235), due);
        }
        merges("both moved it to the same path", files(1234), files(NO, 1234), files(NO, 1234, 5678), NO, 1234, 5678);
        merges("neither moved it", files(1234), files(1234, 1), files(1234, NO, 2), 1234, 1, 2);
        clashes("both moved it, to two paths", files(1234), files(NO, 1234), files(NO, NO, 1234), 1);
        clashes("to the first and the last path", files(NO, 1234), files(1234), files(NO, NO, NO, NO, NO, NO, NO, 1234),
                1);
        clashes("to two paths with one content", files(1234), files(NO, 1235), files(NO, NO, 1235), 1);
        clashes("two files, each to two paths", files(1111, 2222), files(NO, NO, 1111, 2222),
                files(NO, NO, NO, NO, 1111, 2222), 2);
        merges("two files, each moved by one side", files(1111, 2222), files(NO, 2222, 1111),
                files(1111, NO, NO, 2222), NO, NO, 1111, 2222);
    }

    private static int withLine(int line, int digit) {
        int[] weights = {1000, 100, 10, 1};
        int rest = 5555 - 5 * weights[line];
        return rest + digit * weights[line];
    }

    /** Each line by itself, to and from zero and nine as well; the marks keep the commits apart. */
    private static void lines() {
        int[][] digits = {{5, 7}, {0, 9}, {9, 0}, {0, 1}, {1, 0}};
        for (int line = 0; line < 4; line++) {
            for (int[] pair : digits) {
                int before = withLine(line, pair[0]);
                int after = withLine(line, pair[1]);
                int otherwise = withLine(line, 3);
                String what = "line " + (line + 1) + " of " + before + " as " + after;
                merges(what + " on one side", files(before), files(after), files(before, 1), after, 1);
                merges(what + " on both sides", files(before), files(after), files(after, 1), after, 1);
                merges(what + " on neither", files(before), files(before, NO, 1), files(before, 1), before, 1, 1);
                clashes(what + " and " + otherwise, files(before), files(after), files(otherwise), 1);
                clashes(what + " and " + otherwise + ", moved", files(before), files(NO, after), files(otherwise), 1);
            }
        }
    }

    private static void manyLines() {
        merges("two and two", files(1234), files(9834), files(1276), 9876);
        merges("one and three", files(1234), files(9234), files(1876), 9876);
        merges("four on one side", files(1234), files(9876), files(1234, 1), 9876, 1);
        merges("four alike", files(1234), files(9876), files(9876, 1), 9876, 1);
        merges("two alike, and one of each side", files(1234), files(9834), files(9274), 9874);
        merges("to zero", files(1234), files(34), files(1200), 0);
        merges("from zero to the greatest", files(0), files(9900), files(99), 9999);
        clashes("one line of four", files(1234), files(9877), files(9876), 1);
        clashes("four lines are one file", files(1234), files(9876), files(5555), 1);
        clashes("two files, one line of each", files(1234, 5678), files(1235, 5670), files(1236, 5671), 2);
        clashes("one of two files", files(1234, 5678), files(1235, 5670), files(1236, 5670), 1);
    }

    private static void newFiles() {
        for (int path = 1; path < 8; path++) {
            int[] ours = {1234, NO, NO, NO, NO, NO, NO, NO};
            ours[path] = 0;
            merges("0 at " + path, files(1234), ours, files(1235), withNew(1235, path, 0));
            ours[path] = 9999;
            merges("9999 at " + path, files(1234), ours, files(1235), withNew(1235, path, 9999));
        }
        merges("at the first path", files(NO, 1234), files(5678, 1234), files(NO, 1235), 5678, 1235);
        merges("one of each side", files(1234), files(1234, 5678), files(1234, NO, 5678), 1234, 5678, 5678);
        merges("seven of one side", files(1234), files(1234, 1, 22, 333, 4444, 55, 66, 77), files(1235),
                1235, 1, 22, 333, 4444, 55, 66, 77);
        merges("three and four", files(1234), files(1234, 11, 22, 33), files(1234, NO, NO, NO, 44, 55, 66, 77),
                1234, 11, 22, 33, 44, 55, 66, 77);
        merges("a move is no new file besides", files(1234), files(NO, 1234), files(1234, NO, 5678), NO, 1234, 5678);
        merges("a like new file beside its like is no move", files(1234), files(1234, 1234), files(1235),
                1235, 1234);
        merges("of two like new files one is the move", files(1234), files(NO, 1234, 1234), files(9234),
                NO, 9234, 1234);
        ForkHall nothing = Stores.divergedFromNothing(files(1, 22, 333, 4444), files(NO, NO, NO, NO, 5, 66, 777, 8888));
        nothing.merge(1);
        CHECK.same("eight over the empty tree", State.workTree(nothing), text(1, 22, 333, 4444, 5, 66, 777, 8888));
    }

    private static int[] withNew(int first, int path, int content) {
        int[] tree = {first, NO, NO, NO, NO, NO, NO, NO};
        tree[path] = content;
        return tree;
    }

    private static void newFilesOnTheSamePath() {
        for (int path = 1; path < 8; path++) {
            int[] one = withNew(1234, path, 5678);
            merges("the same content at " + path, files(1234), one, withNew(1235, path, 5678),
                    withNew(1235, path, 5678));
            clashes("two contents at " + path, files(1234), one, withNew(1234, path, 9876), 1);
            clashes("two contents of three like lines at " + path, files(1234), one, withNew(1234, path, 5679), 1);
        }
        clashes("at the first path", files(NO, 1234), files(5678, 1234), files(9876, 1234), 1);
        clashes("0 and 9999", files(1234), files(1234, 0), files(1234, 9999), 1);
        merges("0 and 0", files(1234), files(1234, 0), files(1235, 0), 1235, 0);
        merges("9999 and 9999", files(1234), files(1234, 9999), files(1235, 9999), 1235, 9999);
        clashes("on two paths", files(1234), files(1234, 1, 2), files(1234, 5, 6), 2);
        clashes("on one of two paths", files(1234), files(1234, 1, 2), files(1234, 1, 6), 1);
    }

    private static void noPlace() {
        clashes("a place in conflict leaves its path to a new file", files(1234), files(NO, 1234),
                files(NO, 5678, 1234), 1);
        clashes("a line in conflict leaves the path moved to to a new file", files(1234), files(NO, 1235),
                files(1236, 5678), 1);
        clashes("a file nowhere on one side leaves it, too", files(1234), files(NO, 5678), files(NO, 1234), 1);
        clashes("and to a file that is followed", files(1111, 5678), files(NO, 5678, 1112), files(1113, NO, 5678), 1);
        clashes("two that are conflicts crowd no path", files(1111, 5678), files(NO, 5679, 1112),
                files(1113, NO, 5670), 2);
    }

    private static void crowdedPaths() {
        clashes("a followed file and a new one", files(1234), files(NO, 1234), files(1234, 5678), 1);
        clashes("a followed file and a new one with its content", files(1234), files(NO, 1234), files(1234, 1234), 1);
        clashes("two followed files", files(1111, 5678), files(NO, 5678, 1111), files(1111, NO, 5678), 1);
        clashes("two followed files with one content", files(1234, 1234), files(NO, 1234, 1234),
                files(1234, NO, 1234), 1);
        clashes("at the first path", files(NO, 1234, 5678), files(1234, NO, 5678), files(5678, 1234), 1);
        clashes("at the last path", files(1111, 5678), files(NO, 5678, NO, NO, NO, NO, NO, 1111),
                files(1111, NO, NO, NO, NO, NO, NO, 5678), 1);
        clashes("two paths, each for a followed file and a new one", files(1111, 5678), files(NO, NO, 1111, 5678),
                files(1111, 5678, 5, 66), 2);
        clashes("a crowded path and a line in conflict", files(1111, 5678), files(1112, NO, 5678),
                files(1113, 5678, 9), 2);
        clashes("a crowded path and a path of new files", files(1111), files(NO, 1111, 5), files(1111, 22, 66), 2);
        merges("a path that a followed file has left", files(1111, 5678), files(NO, 5678, 1111),
                files(1111, NO, NO, 5678), NO, NO, 1111, 5678);
    }

    private static void mostConflicts() {
        clashes("eight lines", files(1111, 2222, 3333, 4444, 5555, 6666, 7777, 8888),
                files(1110, 2220, 3330, 4440, 5550, 6660, 7770, 8880),
                files(1119, 2229, 3339, 4449, 5559, 6669, 7779, 8889), 8);
        clashes("eight nowhere", files(1111, 2222, 3333, 4444, 5555, 6666, 7777, 8888), files(),
                files(1119, 2229, 3339, 4449, 5559, 6669, 7779, 8889), 8);
        CHECK.tells("eight paths of new files", () -> Stores.divergedFromNothing(
                files(1, 2, 3, 4, 5, 6, 7, 8), files(2, 3, 4, 5, 6, 7, 8, 9)), x -> x.conflicts(1, 2), 8);
        clashes("four lines and four paths", files(1111, 2222, 3333, 4444),
                files(1110, 2220, 3330, 4440, 5, 6, 7, 8), files(1119, 2229, 3339, 4449, 6, 7, 8, 9), 8);
        clashes("four crowded paths", files(1111, 2222, 3333, 4444), files(NO, NO, NO, NO, 1111, 2222, 3333, 4444),
                files(1111, 2222, 3333, 4444, 5, 6, 7, 8), 4);
        clashes("four places", files(1111, 2222, 3333, 4444), files(NO, NO, NO, NO, 1111, 2222, 3333, 4444),
                files(NO, NO, NO, NO, 4444, 3333, 2222, 1111), 4);
    }
}
