import java.util.NoSuchElementException;

/** A store of versions: ../shared/DOC.md says what each call promises. */
public final class ForkHall {
    private static final int PATHS = 8;
    private static final int CONTENTS = 10000;
    private static final int LINES = 4;
    private static final int SIGNS = 10;
    private static final int COMMITS = 60;
    private static final int BRANCHES = 5;
    private static final int LEAST_LIKENESS_OF_A_MOVE = 3;
    private static final int WHOLE_SIZE = 4;
    private static final int DEEPEST_SOURCE = 2;
    private static final int NONE = -1;

    private final History history;
    private final TreeMerge treeMerge;
    private final Pack pack;
    private final Tree work;
    private final int[] heads;
    private final int[] rewritten;
    private int current;

    public ForkHall() {
        history = new History();
        treeMerge = new TreeMerge();
        pack = new Pack();
        work = new Tree();
        heads = new int[BRANCHES];
        rewritten = new int[COMMITS];
        for (int branch = 1; branch < heads.length; branch++) {
            heads[branch] = NONE;
        }
        heads[0] = 0;
        current = 0;
    }

    // ---- the work tree

    public int write(int path, int content) throws IndexOutOfBoundsException, IllegalArgumentException {
        requirePath(path);
        if (content < 0 || content >= CONTENTS) {
            throw new IllegalArgumentException("the content is out of range");
        }
        int before = work.at(path);
        work.put(path, content);
        return before;
    }

    public int erase(int path) throws IndexOutOfBoundsException, NoSuchElementException {
        requirePath(path);
        int erased = requireFile(work, path);
        work.put(path, NONE);
        return erased;
    }

    public int move(int path, int to) throws IndexOutOfBoundsException, NoSuchElementException, IllegalStateException {
        requirePath(path);
        requirePath(to);
        int moved = requireFile(work, path);
        if (work.at(to) != NONE) {
            throw new IllegalStateException("there is a file with the other path");
        }
        work.put(path, NONE);
        work.put(to, moved);
        return moved;
    }

    public int content(int path) throws IndexOutOfBoundsException, NoSuchElementException {
        requirePath(path);
        return requireFile(work, path);
    }

    public int changedPaths() {
        return work.differences(history.treeOf(headOf(current)));
    }

    // ---- commits and branches

    public int commit() throws IllegalStateException {
        if (changedPaths() == 0) {
            throw new IllegalStateException("the work tree has no changes");
        }
        int made = history.record(work, headOf(current), NONE);
        if (made == NONE) {
            throw new IllegalStateException("no further commit has room");
        }
        takeAsHead(made);
        return made;
    }

    public int branch(int branch) throws IndexOutOfBoundsException, IllegalStateException {
        if (!isBranchNumber(branch)) {
            throw new IndexOutOfBoundsException("the number is out of range");
        }
        if (heads[branch] != NONE) {
            throw new IllegalStateException("the branch exists");
        }
        heads[branch] = headOf(current);
        return heads[branch];
    }

    public int checkOut(int branch)
            throws IndexOutOfBoundsException, NoSuchElementException, IllegalStateException {
        int target = requireHead(branch);
        requireNoChanges();
        current = branch;
        work.copy(history.treeOf(target));
        return target;
    }

    public int reset(int commit) throws IndexOutOfBoundsException {
        requireCommit(commit);
        int before = headOf(current);
        takeAsHead(commit);
        return before;
    }

    public int merge(int branch)
            throws IndexOutOfBoundsException, NoSuchElementException, IllegalStateException,
            UnsupportedOperationException {
        int theirs = requireHead(branch);
        requireNoChanges();
        int ours = headOf(current);
        if (history.contains(ours, theirs)) {
            throw new IllegalStateException("the current branch has all of the other one");
        }
        int made = history.contains(theirs, ours) ? theirs : recordMerge(ours, theirs);
        if (made == NONE) {
            throw new UnsupportedOperationException("a conflict, or no room for a commit");
        }
        takeAsHead(made);
        return made;
    }

    public int putOnto(int branch)
            throws IndexOutOfBoundsException, NoSuchElementException, IllegalStateException,
            UnsupportedOperationException {
        int onto = requireHead(branch);
        requireNoChanges();
        int head = headOf(current);
        if (history.contains(onto, head)) {
            throw new IllegalStateException("the other branch has all of the current one");
        }
        int before = history.size();
        int applied = listCommitsNotIn(onto, head);
        int last = applyListed(applied, onto);
        if (last == NONE) {
            history.dropBackTo(before);
            throw new UnsupportedOperationException("a conflict, or no room for a commit");
        }
        takeAsHead(last);
        return applied;
    }

    public int currentBranch() {
        return current;
    }

    public int head(int branch) throws IndexOutOfBoundsException, NoSuchElementException {
        return requireHead(branch);
    }

    public int commits() {
        return history.size();
    }

    // ---- trees and histories

    public int contentIn(int commit, int path) throws IndexOutOfBoundsException, NoSuchElementException {
        requireCommit(commit);
        requirePath(path);
        return requireFile(history.treeOf(commit), path);
    }

    public int parentOf(int commit, int which) throws IndexOutOfBoundsException, NoSuchElementException {
        requireCommit(commit);
        if (which != 0 && which != 1) {
            throw new IndexOutOfBoundsException("the second number is neither 0 nor 1");
        }
        int parent = which == 0 ? history.firstParent(commit) : history.secondParent(commit);
        if (parent == NONE) {
            throw new NoSuchElementException("the commit has no such parent");
        }
        return parent;
    }

    public int generation(int commit) throws IndexOutOfBoundsException {
        requireCommit(commit);
        return history.generationAt(commit);
    }

    public boolean isAncestor(int commit, int other) throws IndexOutOfBoundsException {
        requireCommit(commit);
        requireCommit(other);
        return history.contains(other, commit);
    }

    public boolean isAncestorByWalking(int commit, int other) throws IndexOutOfBoundsException {
        requireCommit(commit);
        requireCommit(other);
        return history.walkMeets(other, commit);
    }

    public int base(int commit, int other) throws IndexOutOfBoundsException {
        requireCommit(commit);
        requireCommit(other);
        return history.bestBase(commit, other);
    }

    public int baseByWalking(int commit, int other) throws IndexOutOfBoundsException {
        requireCommit(commit);
        requireCommit(other);
        return history.walkToBestBase(commit, other);
    }

    public int bases(int commit, int other) throws IndexOutOfBoundsException {
        requireCommit(commit);
        requireCommit(other);
        return history.countBases(commit, other);
    }

    public int movedTo(int commit, int other, int path) throws IndexOutOfBoundsException, NoSuchElementException {
        requireCommit(commit);
        requireCommit(other);
        requirePath(path);
        int target = treeMerge.moveBetween(history.treeOf(commit), history.treeOf(other), path);
        if (target == NONE) {
            throw new NoSuchElementException("the path was not moved");
        }
        return target;
    }

    public int conflicts(int commit, int other) throws IndexOutOfBoundsException {
        requireCommit(commit);
        requireCommit(other);
        return treeMerge.run(history, history.bestBase(commit, other), commit, other);
    }

    public int lastChange(int path) throws IndexOutOfBoundsException, NoSuchElementException {
        requirePath(path);
        int found = history.lastChangeAt(path, headOf(current));
        if (found == NONE) {
            throw new NoSuchElementException("no commit changed the path");
        }
        return found;
    }

    // ---- packing and accounts

    public int packed() {
        return pack.size();
    }

    public int depthOf(int content) throws NoSuchElementException {
        int depth = pack.depthAt(pack.find(content));
        if (depth == NONE) {
            throw new NoSuchElementException("the content is not packed");
        }
        return depth;
    }

    public int packedFrom(int content) throws NoSuchElementException {
        int source = pack.sourceAt(pack.find(content));
        if (source == NONE) {
            throw new NoSuchElementException("the content is not packed by a difference");
        }
        return source;
    }

    public long packSize() {
        return pack.sumOfSizes();
    }

    public float packShare() throws ArithmeticException {
        long whole = (long) pack.size() * WHOLE_SIZE;
        if (whole == 0L) {
            throw new ArithmeticException("nothing is packed");
        }
        return (float) pack.sumOfSizes() / (float) whole;
    }

    public double meanFiles() {
        int trees = history.size();
        return trees > 0 ? (double) history.sumOfFiles() / (double) trees : 0.0;
    }

    // ---- what the calls above share

    private static boolean isBranchNumber(int branch) {
        return branch >= 0 && branch < BRANCHES;
    }

    private static void requirePath(int path) {
        if (path < 0 || path >= PATHS) {
            throw new IndexOutOfBoundsException("there is no such path");
        }
    }

    private static int requireFile(Tree tree, int path) {
        int found = tree.at(path);
        if (found == NONE) {
            throw new NoSuchElementException("there is no such file");
        }
        return found;
    }

    private void requireCommit(int commit) {
        if (!history.has(commit)) {
            throw new IndexOutOfBoundsException("there is no such commit");
        }
    }

    private int requireHead(int branch) {
        if (!isBranchNumber(branch)) {
            throw new IndexOutOfBoundsException("the number is out of range");
        }
        int found = headOf(branch);
        if (found == NONE) {
            throw new NoSuchElementException("the branch does not exist");
        }
        return found;
    }

    private void requireNoChanges() {
        if (changedPaths() != 0) {
            throw new IllegalStateException("the work tree has changes");
        }
    }

    private int headOf(int branch) {
        return isBranchNumber(branch) ? heads[branch] : NONE;
    }

    private void takeAsHead(int commit) {
        if (isBranchNumber(current)) {
            heads[current] = commit;
        }
        work.copy(history.treeOf(commit));
        pack.catchUpWith(history);
    }

    private int recordMerge(int ours, int theirs) {
        if (treeMerge.run(history, history.bestBase(ours, theirs), ours, theirs) > 0) {
            return NONE;
        }
        return history.record(treeMerge.merged(), ours, theirs);
    }

    /** Lists the newest first, as first parents lead to them. */
    private int listCommitsNotIn(int onto, int head) {
        int listed = 0;
        int next = head;
        while (listed < rewritten.length && next != NONE && !history.contains(onto, next)) {
            rewritten[listed] = next;
            listed++;
            next = history.firstParent(next);
        }
        return listed;
    }

    /** Returns the last commit, or NONE where the rewriting can't go on. */
    private int applyListed(int listed, int onto) {
        int soFar = onto;
        for (int i = Math.min(listed, rewritten.length) - 1; i >= 0 && soFar != NONE; i--) {
            int commit = rewritten[i];
            if (treeMerge.run(history, history.firstParent(commit), soFar, commit) > 0) {
                return NONE;
            }
            if (treeMerge.merged().differences(history.treeOf(soFar)) > 0) {
                soFar = history.record(treeMerge.merged(), soFar, NONE);
            }
        }
        return soFar;
    }

    /** What can be said of contents by their lines alone. */
    private static final class Lines {
        static int likeness(int one, int other) {
            int same = 0;
            int restOfOne = one;
            int restOfOther = other;
            for (int line = 0; line < LINES; line++) {
                if (restOfOne % SIGNS == restOfOther % SIGNS) {
                    same++;
                }
                restOfOne /= SIGNS;
                restOfOther /= SIGNS;
            }
            return same;
        }

        /** Returns NONE if both sides made different changes. */
        static int changed(int base, int ours, int theirs) {
            if (ours == base) {
                return theirs;
            }
            return theirs == base || theirs == ours ? ours : NONE;
        }

        /** Returns NONE if a line is a conflict. */
        static int mergeContents(int base, int ours, int theirs) {
            int restOfBase = base;
            int restOfOurs = ours;
            int restOfTheirs = theirs;
            int merged = 0;
            int weight = 1;
            for (int line = 0; line < LINES; line++) {
                int sign = changed(restOfBase % SIGNS, restOfOurs % SIGNS, restOfTheirs % SIGNS);
                if (sign == NONE) {
                    return NONE;
                }
                merged += sign * weight;
                weight *= SIGNS;
                restOfBase /= SIGNS;
                restOfOurs /= SIGNS;
                restOfTheirs /= SIGNS;
            }
            return merged;
        }
    }

    /** At most one content for each path. */
    private static final class Tree {
        private final int[] files;

        Tree() {
            files = new int[PATHS];
            for (int path = 0; path < files.length; path++) {
                files[path] = NONE;
            }
        }

        int at(int path) {
            return path >= 0 && path < files.length ? files[path] : NONE;
        }

        void put(int path, int content) {
            if (path >= 0 && path < files.length) {
                files[path] = content;
            }
        }

        void copy(Tree other) {
            for (int path = 0; path < files.length; path++) {
                files[path] = other.at(path);
            }
        }

        int differences(Tree other) {
            int different = 0;
            for (int path = 0; path < files.length; path++) {
                if (files[path] != other.at(path)) {
                    different++;
                }
            }
            return different;
        }

        int countFiles() {
            int found = 0;
            for (int path = 0; path < files.length; path++) {
                if (files[path] != NONE) {
                    found++;
                }
            }
            return found;
        }
    }

    /** All commits; a parent always has a lower number than its child. */
    private static final class History {
        private static final int FROM_ONE = 1;
        private static final int FROM_OTHER = 2;

        private final Tree[] trees;
        private final Tree noTree;
        private final int[] firstParents;
        private final int[] secondParents;
        private final int[] generations;
        private final long[] ancestors;
        private final int[] marks;
        private int count;

        History() {
            trees = new Tree[COMMITS];
            noTree = new Tree();
            firstParents = new int[COMMITS];
            secondParents = new int[COMMITS];
            generations = new int[COMMITS];
            ancestors = new long[COMMITS];
            marks = new int[COMMITS];
            for (int commit = 0; commit < COMMITS; commit++) {
                trees[commit] = new Tree();
                firstParents[commit] = NONE;
                secondParents[commit] = NONE;
            }
            ancestors[0] = 1L;
            count = 1;
        }

        int size() {
            return count;
        }

        boolean has(int commit) {
            return commit >= 0 && commit < count;
        }

        Tree treeOf(int commit) {
            Tree tree = has(commit) ? trees[commit] : noTree;
            return tree == null ? noTree : tree;
        }

        int firstParent(int commit) {
            return has(commit) ? firstParents[commit] : NONE;
        }

        int secondParent(int commit) {
            return has(commit) ? secondParents[commit] : NONE;
        }

        int generationAt(int commit) {
            return has(commit) ? generations[commit] : NONE;
        }

        private long ancestorsAt(int commit) {
            return has(commit) ? ancestors[commit] : 0L;
        }

        /** Returns the commit that is there already, a new one, or NONE if there is no room for it. */
        int record(Tree tree, int first, int second) {
            int there = findSame(tree, first, second);
            if (there != NONE || count >= COMMITS) {
                return there;
            }
            int made = count;
            count++;
            treeOf(made).copy(tree);
            firstParents[made] = first;
            secondParents[made] = second;
            generations[made] = 1 + Math.max(generationAt(first), generationAt(second));
            ancestors[made] = ancestorsAt(first) | ancestorsAt(second) | 1L << made;
            return made;
        }

        private int findSame(Tree tree, int first, int second) {
            for (int commit = 0; commit < count; commit++) {
                if (firstParent(commit) == first && secondParent(commit) == second
                        && treeOf(commit).differences(tree) == 0) {
                    return commit;
                }
            }
            return NONE;
        }

        void dropBackTo(int size) {
            if (size > 0 && size < count) {
                count = size;
            }
        }

        private boolean isIn(long set, int commit) {
            return has(commit) && (set >>> commit & 1L) != 0L;
        }

        /** Whether the history of a commit has an ancestor in it. */
        boolean contains(int commit, int ancestor) {
            return isIn(ancestorsAt(commit), ancestor);
        }

        int bestBase(int one, int other) {
            long common = ancestorsAt(one) & ancestorsAt(other);
            int commit = count - 1;
            // No commit is an ancestor of one with a lower number, so the greatest is a base.
            while (commit >= 0 && !isIn(common, commit)) {
                commit--;
            }
            return commit;
        }

        int countBases(int one, int other) {
            long common = ancestorsAt(one) & ancestorsAt(other);
            long surpassed = 0L;
            for (int commit = 0; commit < count; commit++) {
                if (isIn(common, commit)) {
                    surpassed |= ancestorsAt(commit) & ~(1L << commit);
                }
            }
            return Long.bitCount(common & ~surpassed);
        }

        boolean walkMeets(int from, int sought) {
            clearMarks();
            mark(from, FROM_ONE);
            // Downwards by number each child comes before its parents, so one pass meets all.
            for (int commit = count - 1; commit >= 0; commit--) {
                markParents(commit);
            }
            return marksAt(sought) == FROM_ONE;
        }

        int walkToBestBase(int one, int other) {
            clearMarks();
            mark(one, FROM_ONE);
            mark(other, FROM_OTHER);
            for (int commit = count - 1; commit >= 0; commit--) {
                if (marksAt(commit) == (FROM_ONE | FROM_OTHER)) {
                    return commit;
                }
                markParents(commit);
            }
            return NONE;
        }

        private void clearMarks() {
            for (int commit = 0; commit < marks.length; commit++) {
                marks[commit] = 0;
            }
        }

        private int marksAt(int commit) {
            return has(commit) ? marks[commit] : 0;
        }

        private void mark(int commit, int marksToAdd) {
            if (has(commit)) {
                marks[commit] |= marksToAdd;
            }
        }

        private void markParents(int commit) {
            mark(firstParent(commit), marksAt(commit));
            mark(secondParent(commit), marksAt(commit));
        }

        int lastChangeAt(int path, int head) {
            int commit = head;
            for (int steps = 0; steps < COMMITS && firstParent(commit) != NONE; steps++) {
                int parent = firstParent(commit);
                if (treeOf(commit).at(path) != treeOf(parent).at(path)) {
                    return commit;
                }
                commit = parent;
            }
            return NONE;
        }

        int sumOfFiles() {
            int sum = 0;
            for (int commit = 0; commit < count; commit++) {
                sum += treeOf(commit).countFiles();
            }
            return sum;
        }
    }

    /** Where the files of a first tree stand in a second one. */
    private static final class Comparison {
        private final Tree first;
        private final Tree second;
        private final int[] targets;
        private final int[] sources;

        Comparison() {
            first = new Tree();
            second = new Tree();
            targets = new int[PATHS];
            sources = new int[PATHS];
        }

        void run(Tree one, Tree other) {
            first.copy(one);
            second.copy(other);
            for (int path = 0; path < PATHS; path++) {
                targets[path] = NONE;
                sources[path] = NONE;
            }
            // A move takes only pairs away, so one pass over them from best to worst finds all moves.
            for (int likeness = LINES; likeness >= LEAST_LIKENESS_OF_A_MOVE; likeness--) {
                takeMoves(likeness);
            }
        }

        private void takeMoves(int likeness) {
            for (int gone = 0; gone < PATHS; gone++) {
                for (int fresh = 0; fresh < PATHS && isFreeToLeave(gone); fresh++) {
                    if (isFreeToCome(fresh) && Lines.likeness(first.at(gone), second.at(fresh)) == likeness) {
                        targets[gone] = fresh;
                        sources[fresh] = gone;
                    }
                }
            }
        }

        private boolean isFreeToLeave(int path) {
            return first.at(path) != NONE && second.at(path) == NONE && target(path) == NONE;
        }

        private boolean isFreeToCome(int path) {
            return first.at(path) == NONE && second.at(path) != NONE && source(path) == NONE;
        }

        int target(int path) {
            return path >= 0 && path < targets.length ? targets[path] : NONE;
        }

        private int source(int path) {
            return path >= 0 && path < sources.length ? sources[path] : NONE;
        }

        int contentBefore(int path) {
            return first.at(path);
        }

        int contentAfter(int path) {
            return second.at(path);
        }

        int placeOf(int path) {
            return second.at(path) != NONE ? path : target(path);
        }

        boolean isNowhereOrUnchanged(int path) {
            return placeOf(path) == NONE || second.at(path) == first.at(path);
        }

        /** Returns the content of a new file that no move brought, or NONE. */
        int newContentAt(int path) {
            return isFreeToCome(path) ? second.at(path) : NONE;
        }
    }

    /** Merges trees; its rows are used again by each run. */
    private static final class TreeMerge {
        private final Comparison ours;
        private final Comparison theirs;
        private final Tree result;
        private final int[] arrivals;
        private int conflicting;

        TreeMerge() {
            ours = new Comparison();
            theirs = new Comparison();
            result = new Tree();
            arrivals = new int[PATHS];
        }

        Tree merged() {
            return result;
        }

        int moveBetween(Tree one, Tree other, int path) {
            ours.run(one, other);
            return ours.target(path);
        }

        /** Returns the number of conflicts; the merged tree is right only if there are none. */
        int run(History history, int base, int ourCommit, int theirCommit) {
            ours.run(history.treeOf(base), history.treeOf(ourCommit));
            theirs.run(history.treeOf(base), history.treeOf(theirCommit));
            conflicting = 0;
            for (int path = 0; path < arrivals.length; path++) {
                arrivals[path] = 0;
                result.put(path, NONE);
            }
            for (int path = 0; path < PATHS; path++) {
                if (ours.contentBefore(path) != NONE) {
                    follow(path);
                }
                bringNewFiles(path);
            }
            return conflicting + countCrowdedPaths();
        }

        private void follow(int path) {
            int ourPlace = ours.placeOf(path);
            int theirPlace = theirs.placeOf(path);
            if (ourPlace == NONE || theirPlace == NONE) {
                if (!ours.isNowhereOrUnchanged(path) || !theirs.isNowhereOrUnchanged(path)) {
                    conflicting++;
                }
                return;
            }
            int place = Lines.changed(path, ourPlace, theirPlace);
            int content = Lines.mergeContents(ours.contentBefore(path), ours.contentAfter(ourPlace),
                    theirs.contentAfter(theirPlace));
            if (place == NONE || content == NONE) {
                conflicting++;
            } else {
                arrive(place, content);
            }
        }

        private void bringNewFiles(int path) {
            int ourContent = ours.newContentAt(path);
            int theirContent = theirs.newContentAt(path);
            if (ourContent != NONE) {
                arrive(path, ourContent);
            }
            if (theirContent != NONE && theirContent != ourContent) {
                arrive(path, theirContent);
            }
        }

        private void arrive(int path, int content) {
            if (path >= 0 && path < arrivals.length) {
                arrivals[path]++;
                result.put(path, content);
            }
        }

        private int countCrowdedPaths() {
            int crowded = 0;
            for (int path = 0; path < arrivals.length; path++) {
                if (arrivals[path] > 1) {
                    crowded++;
                }
            }
            return crowded;
        }
    }

    /** Grows with the commits: what was packed stays as it is, since no commit ever goes away. */
    private static final class Pack {
        private final int[] contents;
        private final int[] sources;
        private final int[] depths;
        private int count;
        private int commitsTaken;
        private long sum;

        Pack() {
            contents = new int[COMMITS * PATHS];
            sources = new int[COMMITS * PATHS];
            depths = new int[COMMITS * PATHS];
        }

        int size() {
            return count;
        }

        long sumOfSizes() {
            return sum;
        }

        private boolean hasPlace(int place) {
            return place >= 0 && place < count;
        }

        int find(int content) {
            for (int place = 0; place < count; place++) {
                if (contents[place] == content) {
                    return place;
                }
            }
            return NONE;
        }

        int depthAt(int place) {
            return hasPlace(place) ? depths[place] : NONE;
        }

        int sourceAt(int place) {
            return hasPlace(place) ? sources[place] : NONE;
        }

        void catchUpWith(History history) {
            while (commitsTaken < history.size()) {
                Tree tree = history.treeOf(commitsTaken);
                for (int path = 0; path < PATHS; path++) {
                    add(tree.at(path));
                }
                commitsTaken++;
            }
        }

        private void add(int content) {
            if (content == NONE || find(content) != NONE || count >= contents.length) {
                return;
            }
            int from = NONE;
            int least = WHOLE_SIZE;
            for (int place = 0; place < count; place++) {
                int size = 1 + LINES - Lines.likeness(contents[place], content);
                if (depths[place] <= DEEPEST_SOURCE && size < least) {
                    from = place;
                    least = size;
                }
            }
            contents[count] = content;
            sources[count] = from == NONE ? NONE : contents[from];
            depths[count] = from == NONE ? 0 : depths[from] + 1;
            sum += least;
            count++;
        }
    }
}
