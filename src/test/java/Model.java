import java.util.ArrayList;
import java.util.HashMap;
import java.util.List;
import java.util.Map;
import java.util.NoSuchElementException;
import java.util.Set;
import java.util.TreeMap;
import java.util.TreeSet;

/** The document once more, written as slowly and as literally as it reads, to compare answers with. */
final class Model {
    /** A commit as the document tells it; parents are numbers. */
    private static final class Commit {
        final TreeMap<Integer, Integer> tree;
        final List<Integer> parents;

        Commit(Map<Integer, Integer> tree, List<Integer> parents) {
            this.tree = new TreeMap<>(tree);
            this.parents = parents;
        }
    }

    /** What a merge of trees comes to. */
    private static final class Merged {
        final TreeMap<Integer, Integer> tree = new TreeMap<>();
        int conflicts;
    }

    /** What packing comes to; a whole content has no source. */
    private static final class Packed {
        final List<String> order = new ArrayList<>();
        final Map<String, Integer> depth = new HashMap<>();
        final Map<String, String> source = new HashMap<>();
        long size;
    }

    private TreeMap<Integer, Integer> work = new TreeMap<>();
    private List<Commit> commits = new ArrayList<>();
    private final TreeMap<Integer, Integer> heads = new TreeMap<>();
    private int current = 0;

    Model() {
        commits.add(new Commit(new TreeMap<>(), List.of()));
        heads.put(0, 0);
    }

    private static void path(int path) {
        if (path < 0 || path > 7) {
            throw new IndexOutOfBoundsException();
        }
    }

    private void number(int commit) {
        if (commit < 0 || commit >= commits.size()) {
            throw new IndexOutOfBoundsException();
        }
    }

    private static void inTree(Map<Integer, Integer> tree, int path) {
        if (!tree.containsKey(path)) {
            throw new NoSuchElementException();
        }
    }

    private void existing(int branch) {
        if (branch < 0 || branch > 4) {
            throw new IndexOutOfBoundsException();
        }
        if (!heads.containsKey(branch)) {
            throw new NoSuchElementException();
        }
    }

    private TreeMap<Integer, Integer> tree(int commit) {
        return commits.get(commit).tree;
    }

    private int head() {
        return heads.get(current);
    }

    private void unchanged() {
        if (!work.equals(tree(head()))) {
            throw new IllegalStateException();
        }
    }

    private void go(int commit) {
        heads.put(current, commit);
        work = new TreeMap<>(tree(commit));
    }

    int write(int path, int content) {
        path(path);
        if (content < 0 || content > 9999) {
            throw new IllegalArgumentException();
        }
        Integer before = work.put(path, content);
        return before == null ? -1 : before;
    }

    int erase(int path) {
        path(path);
        inTree(work, path);
        return work.remove(path);
    }

    int move(int path, int to) {
        path(path);
        path(to);
        inTree(work, path);
        if (work.containsKey(to)) {
            throw new IllegalStateException();
        }
        int content = work.remove(path);
        work.put(to, content);
        return content;
    }

    int content(int path) {
        path(path);
        inTree(work, path);
        return work.get(path);
    }

    int changedPaths() {
        int changed = 0;
        for (int path = 0; path < 8; path++) {
            Integer here = work.get(path);
            Integer there = tree(head()).get(path);
            if (here == null ? there != null : !here.equals(there)) {
                changed++;
            }
        }
        return changed;
    }

    /** Returns -1 if it would be a 61st. */
    private int make(Map<Integer, Integer> tree, List<Integer> parents) {
        for (int i = 0; i < commits.size(); i++) {
            if (tree(i).equals(tree) && commits.get(i).parents.equals(parents)) {
                return i;
            }
        }
        if (commits.size() == 60) {
            return -1;
        }
        commits.add(new Commit(tree, parents));
        return commits.size() - 1;
    }

    int commit() {
        if (work.equals(tree(head()))) {
            throw new IllegalStateException();
        }
        int made = make(work, List.of(head()));
        if (made < 0) {
            throw new IllegalStateException();
        }
        go(made);
        return made;
    }

    int branch(int branch) {
        if (branch < 0 || branch > 4) {
            throw new IndexOutOfBoundsException();
        }
        if (heads.containsKey(branch)) {
            throw new IllegalStateException();
        }
        heads.put(branch, head());
        return head();
    }

    int checkOut(int branch) {
        existing(branch);
        unchanged();
        current = branch;
        go(head());
        return head();
    }

    int reset(int commit) {
        number(commit);
        int before = head();
        go(commit);
        return before;
    }

    int merge(int branch) {
        existing(branch);
        unchanged();
        int other = heads.get(branch);
        if (ancestors(head()).contains(other)) {
            throw new IllegalStateException();
        }
        if (ancestors(other).contains(head())) {
            go(other);
            return other;
        }
        Merged merged = mergeTrees(tree(base(head(), other)), tree(head()), tree(other));
        int made = merged.conflicts > 0 ? -1 : make(merged.tree, List.of(head(), other));
        if (made < 0) {
            throw new UnsupportedOperationException();
        }
        go(made);
        return made;
    }

    int putOnto(int branch) {
        existing(branch);
        unchanged();
        int other = heads.get(branch);
        if (ancestors(other).contains(head())) {
            throw new IllegalStateException();
        }
        List<Integer> own = new ArrayList<>();
        for (int c = head(); !ancestors(other).contains(c); c = commits.get(c).parents.get(0)) {
            own.add(0, c);
        }
        List<Commit> before = new ArrayList<>(commits);
        int soFar = other;
        for (int c : own) {
            Merged merged = mergeTrees(tree(commits.get(c).parents.get(0)), tree(soFar), tree(c));
            if (merged.conflicts > 0) {
                soFar = -1;
            } else if (!merged.tree.equals(tree(soFar))) {
                soFar = make(merged.tree, List.of(soFar));
            }
            if (soFar < 0) {
                commits = before;
                throw new UnsupportedOperationException();
            }
        }
        go(soFar);
        return own.size();
    }

    int currentBranch() {
        return current;
    }

    int head(int branch) {
        existing(branch);
        return heads.get(branch);
    }

    int commits() {
        return commits.size();
    }

    int contentIn(int commit, int path) {
        number(commit);
        path(path);
        inTree(tree(commit), path);
        return tree(commit).get(path);
    }

    int parentOf(int commit, int which) {
        number(commit);
        if (which != 0 && which != 1) {
            throw new IndexOutOfBoundsException();
        }
        if (commits.get(commit).parents.size() <= which) {
            throw new NoSuchElementException();
        }
        return commits.get(commit).parents.get(which);
    }

    int generation(int commit) {
        number(commit);
        int[] all = new int[commits.size()];
        for (int c = 1; c <= commit; c++) {
            for (int parent : commits.get(c).parents) {
                all[c] = Math.max(all[c], all[parent] + 1);
            }
        }
        return all[commit];
    }

    private Set<Integer> ancestors(int commit) {
        Set<Integer> found = new TreeSet<>();
        List<Integer> open = new ArrayList<>(List.of(commit));
        while (!open.isEmpty()) {
            int next = open.remove(open.size() - 1);
            if (found.add(next)) {
                open.addAll(commits.get(next).parents);
            }
        }
        return found;
    }

    private List<Integer> allBases(int commit, int other) {
        Set<Integer> common = ancestors(commit);
        common.retainAll(ancestors(other));
        List<Integer> bases = new ArrayList<>();
        for (int one : common) {
            boolean surpassed = false;
            for (int another : common) {
                surpassed |= another != one && ancestors(another).contains(one);
            }
            if (!surpassed) {
                bases.add(one);
            }
        }
        return bases;
    }

    boolean isAncestor(int commit, int other) {
        number(commit);
        number(other);
        return ancestors(other).contains(commit);
    }

    boolean isAncestorByWalking(int commit, int other) {
        return isAncestor(commit, other);
    }

    int base(int commit, int other) {
        number(commit);
        number(other);
        List<Integer> bases = allBases(commit, other);
        return bases.get(bases.size() - 1);
    }

    int baseByWalking(int commit, int other) {
        return base(commit, other);
    }

    int bases(int commit, int other) {
        number(commit);
        number(other);
        return allBases(commit, other).size();
    }

    private static String lines(int content) {
        return String.format("%04d", content);
    }

    private static int alike(String one, String other) {
        int same = 0;
        for (int i = 0; i < 4; i++) {
            same += one.charAt(i) == other.charAt(i) ? 1 : 0;
        }
        return same;
    }

    /** The moves, found by taking the best pair again and again. */
    private static Map<Integer, Integer> moves(Map<Integer, Integer> first, Map<Integer, Integer> second) {
        Map<Integer, Integer> moves = new TreeMap<>();
        while (true) {
            int best = 0;
            int from = -1;
            int to = -1;
            for (int gone : first.keySet()) {
                for (int fresh : second.keySet()) {
                    boolean free = !second.containsKey(gone) && !first.containsKey(fresh)
                            && !moves.containsKey(gone) && !moves.containsValue(fresh);
                    int likeness = alike(lines(first.get(gone)), lines(second.get(fresh)));
                    if (free && likeness >= 3 && likeness > best) {
                        best = likeness;
                        from = gone;
                        to = fresh;
                    }
                }
            }
            if (from < 0) {
                return moves;
            }
            moves.put(from, to);
        }
    }

    private static Integer place(int path, Map<Integer, Integer> side, Map<Integer, Integer> moves) {
        return side.containsKey(path) ? Integer.valueOf(path) : moves.get(path);
    }

    /** Returns null for a conflict. */
    private static <T> T choose(T base, T ours, T theirs) {
        boolean weChanged = !ours.equals(base);
        boolean theyChanged = !theirs.equals(base);
        if (weChanged && theyChanged) {
            return ours.equals(theirs) ? ours : null;
        }
        return weChanged ? ours : theirs;
    }

    private static Integer chooseLines(int base, int ours, int theirs) {
        StringBuilder text = new StringBuilder();
        for (int i = 0; i < 4; i++) {
            Character line = choose(lines(base).charAt(i), lines(ours).charAt(i), lines(theirs).charAt(i));
            if (line == null) {
                return null;
            }
            text.append(line.charValue());
        }
        return Integer.valueOf(text.toString());
    }

    private static Merged mergeTrees(TreeMap<Integer, Integer> base, TreeMap<Integer, Integer> ours,
            TreeMap<Integer, Integer> theirs) {
        Merged merged = new Merged();
        Map<Integer, Integer> ourMoves = moves(base, ours);
        Map<Integer, Integer> theirMoves = moves(base, theirs);
        List<int[]> placed = new ArrayList<>();
        for (int path : base.keySet()) {
            Integer our = place(path, ours, ourMoves);
            Integer their = place(path, theirs, theirMoves);
            if (our == null && their == null) {
                continue;
            }
            if (our == null || their == null) {
                Integer there = our == null ? their : our;
                Map<Integer, Integer> side = our == null ? theirs : ours;
                if (there != path || !side.get(path).equals(base.get(path))) {
                    merged.conflicts++;
                }
                continue;
            }
            Integer place = choose(Integer.valueOf(path), our, their);
            Integer content = chooseLines(base.get(path), ours.get(our), theirs.get(their));
            if (place == null || content == null) {
                merged.conflicts++;
            } else {
                placed.add(new int[] {place, content});
            }
        }
        for (int path = 0; path < 8; path++) {
            boolean weHave = ours.containsKey(path) && !base.containsKey(path) && !ourMoves.containsValue(path);
            boolean theyHave = theirs.containsKey(path) && !base.containsKey(path)
                    && !theirMoves.containsValue(path);
            if (weHave) {
                placed.add(new int[] {path, ours.get(path)});
            }
            if (theyHave && !(weHave && ours.get(path).equals(theirs.get(path)))) {
                placed.add(new int[] {path, theirs.get(path)});
            }
        }
        Set<Integer> crowded = new TreeSet<>();
        for (int[] file : placed) {
            if (merged.tree.put(file[0], file[1]) != null) {
                crowded.add(file[0]);
            }
        }
        merged.conflicts += crowded.size();
        return merged;
    }

    int movedTo(int commit, int other, int path) {
        number(commit);
        number(other);
        path(path);
        Integer to = moves(tree(commit), tree(other)).get(path);
        if (to == null) {
            throw new NoSuchElementException();
        }
        return to;
    }

    int conflicts(int commit, int other) {
        number(commit);
        number(other);
        return mergeTrees(tree(base(commit, other)), tree(commit), tree(other)).conflicts;
    }

    int lastChange(int path) {
        path(path);
        int commit = head();
        while (!commits.get(commit).parents.isEmpty()) {
            int parent = commits.get(commit).parents.get(0);
            String here = String.valueOf(tree(commit).get(path));
            if (!here.equals(String.valueOf(tree(parent).get(path)))) {
                return commit;
            }
            commit = parent;
        }
        throw new NoSuchElementException();
    }

    private Packed pack() {
        Packed pack = new Packed();
        for (Commit commit : commits) {
            for (int content : commit.tree.values()) {
                String text = lines(content);
                if (pack.depth.containsKey(text)) {
                    continue;
                }
                String best = null;
                for (String source : pack.order) {
                    if (pack.depth.get(source) < 3 && (best == null || alike(source, text) > alike(best, text))) {
                        best = source;
                    }
                }
                int size = best == null ? 9 : 5 - alike(best, text);
                if (size < 4) {
                    pack.source.put(text, best);
                    pack.depth.put(text, pack.depth.get(best) + 1);
                    pack.size += size;
                } else {
                    pack.depth.put(text, 0);
                    pack.size += 4;
                }
                pack.order.add(text);
            }
        }
        return pack;
    }

    int packed() {
        return pack().order.size();
    }

    int depthOf(int content) {
        Integer depth = content < 0 ? null : pack().depth.get(lines(content));
        if (depth == null) {
            throw new NoSuchElementException();
        }
        return depth;
    }

    int packedFrom(int content) {
        String source = content < 0 ? null : pack().source.get(lines(content));
        if (source == null) {
            throw new NoSuchElementException();
        }
        return Integer.parseInt(source);
    }

    long packSize() {
        return pack().size;
    }

    float packShare() {
        if (packed() == 0) {
            throw new ArithmeticException();
        }
        return (float) packSize() / (float) (4 * packed());
    }

    double meanFiles() {
        int files = 0;
        for (Commit commit : commits) {
            files += commit.tree.size();
        }
        return (double) files / (double) commits.size();
    }
}
