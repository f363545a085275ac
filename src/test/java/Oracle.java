import java.util.ArrayList;
import java.util.HashMap;
import java.util.HashSet;
import java.util.LinkedHashSet;
import java.util.List;
import java.util.Map;
import java.util.Set;
import java.util.TreeMap;
import java.util.TreeSet;

/**
 * The document once more, in the plainest form and without any regard to room or speed: TERMS are trees, sets are
 * sets, nothing is kept that can be found again. The tests compare Equalbook with it, call by call.
 */
public final class Oracle {
    /** A TERM as a tree. */
    record Tree(int sign, Tree left, Tree right) {
        int size() {
            return 1 + (left == null ? 0 : left.size()) + (right == null ? 0 : right.size());
        }

        String text() {
            String letter = "oabxyzsp".substring(sign, sign + 1);
            if (sign < 6) {
                return letter;
            }
            return letter + "(" + left.text() + (sign == 7 ? "," + right.text() : "") + ")";
        }

        Set<Integer> variables() {
            Set<Integer> all = new TreeSet<>();
            if (sign >= 3 && sign <= 5) {
                all.add(sign);
            }
            if (left != null) {
                all.addAll(left.variables());
            }
            if (right != null) {
                all.addAll(right.variables());
            }
            return all;
        }

        boolean isBare() {
            return variables().isEmpty();
        }

        Tree with(Map<Integer, Tree> puts) {
            if (puts.containsKey(sign)) {
                return puts.get(sign);
            }
            if (sign < 6) {
                return this;
            }
            return new Tree(sign, left.with(puts), right == null ? null : right.with(puts));
        }
    }

    /** All that a LEVEL notes of a BOOK. */
    static final class Page {
        List<int[]> equations = new ArrayList<>();
        Set<Integer> gone = new TreeSet<>();
        List<int[]> unlikes = new ArrayList<>();
        boolean isOrder;
        boolean isGroups;

        Page copy() {
            Page page = new Page();
            page.equations = new ArrayList<>(equations);
            page.gone = new TreeSet<>(gone);
            page.unlikes = new ArrayList<>(unlikes);
            page.isOrder = isOrder;
            page.isGroups = isGroups;
            return page;
        }
    }

    record Line(int left, int right, int rule, int i, int j) {
    }

    static final class TooLong extends RuntimeException {
        private static final long serialVersionUID = 1L;
    }

    final List<Tree> terms = new ArrayList<>();
    final List<Page> books = List.of(new Page(), new Page());
    private final Page[] page = {books.get(0), books.get(1)};
    private final List<List<Page>> levels = List.of(new ArrayList<>(), new ArrayList<>());
    final List<List<Line>> proofs = List.of(new ArrayList<>(), new ArrayList<>(), new ArrayList<>());
    final Map<Integer, List<Line>> lemmas = new TreeMap<>();
    private final Map<Tree, boolean[]> valuesOf = new HashMap<>();
    private final Map<String, List<boolean[][]>> roundsOf = new HashMap<>();
    private int knocks;

    public Oracle() {
        for (int sign = 0; sign < 6; sign++) {
            terms.add(new Tree(sign, null, null));
        }
    }

    Page book(int b) {
        return page[b];
    }

    // ---- what is looked at first

    private void needTerm(int... all) {
        for (int t : all) {
            if (t < 0 || t >= terms.size()) {
                throw new IndexOutOfBoundsException();
            }
        }
    }

    private void needBook(int b) {
        if (b != 0 && b != 1) {
            throw new IndexOutOfBoundsException();
        }
    }

    private void needProof(int p) {
        if (p < 0 || p > 2) {
            throw new IndexOutOfBoundsException();
        }
    }

    private void needLine(int p, int k) {
        needProof(p);
        if (k < 0 || k >= proofs.get(p).size()) {
            throw new IndexOutOfBoundsException();
        }
    }

    private void needEquation(int b, int k) {
        needBook(b);
        if (k < 0 || k >= page[b].equations.size()) {
            throw new IndexOutOfBoundsException();
        }
    }

    private void needIn(int what, int from, int to) {
        if (what < from || what > to) {
            throw new IllegalArgumentException();
        }
    }

    private void needBare(int... all) {
        for (int t : all) {
            if (!tree(t).isBare()) {
                throw new IllegalArgumentException();
            }
        }
    }

    private Tree tree(int t) {
        return terms.get(t);
    }

    // ---- terms

    /** Keeps a TERM with all its parts, if there is room. */
    private int keepTree(Tree tree) {
        if (tree.size() > 15) {
            return -9;
        }
        List<Tree> more = new ArrayList<>(terms);
        keepParts(tree, more);
        if (more.size() > 64) {
            return -9;
        }
        terms.clear();
        terms.addAll(more);
        return terms.indexOf(tree);
    }

    private void keepParts(Tree tree, List<Tree> more) {
        if (more.contains(tree)) {
            return;
        }
        if (tree.left != null) {
            keepParts(tree.left, more);
        }
        if (tree.right != null) {
            keepParts(tree.right, more);
        }
        more.add(tree);
    }

    public int term(int sign, int left, int right) {
        needIn(sign, 0, 7);
        if (sign < 6) {
            return sign;
        }
        needTerm(left);
        if (sign == 7) {
            needTerm(right);
        }
        return keepTree(new Tree(sign, tree(left), sign == 7 ? tree(right) : null));
    }

    public int put(int t, int variable, int by) {
        needTerm(t, by);
        needIn(variable, 3, 5);
        return keepTree(tree(t).with(Map.of(variable, tree(by))));
    }

    public String text(int t) {
        needTerm(t);
        return tree(t).text();
    }

    public int ofTerm(int t, int what) {
        needTerm(t);
        needIn(what, 0, 5);
        Tree tree = tree(t);
        int variables = 0;
        for (int v : tree.variables()) {
            variables += v == 3 ? 1 : v == 4 ? 2 : 4;
        }
        int left = tree.left == null ? -1 : terms.indexOf(tree.left);
        int right = tree.right == null ? -1 : terms.indexOf(tree.right);
        return new int[] {tree.sign, tree.size(), tree.isBare() ? 1 : 0, left, right, variables}[what];
    }

    // ---- books

    public int tell(int book, int left, int right) {
        needBook(book);
        needTerm(left, right);
        if (page[book].equations.size() == 14) {
            throw new IllegalStateException();
        }
        page[book].equations.add(new int[] {left, right});
        return page[book].equations.size() - 1;
    }

    public int unlike(int book, int t, int u) {
        needBook(book);
        needTerm(t, u);
        needBare(t, u);
        if (page[book].unlikes.size() == 6) {
            throw new IllegalStateException();
        }
        page[book].unlikes.add(new int[] {t, u});
        return page[book].unlikes.size() - 1;
    }

    public int takeBack(int book, int k) {
        needEquation(book, k);
        if (!page[book].gone.add(k)) {
            throw new IllegalStateException();
        }
        return live(book).size();
    }

    public int law(int book, boolean isOrder, boolean isGroups) {
        needBook(book);
        int held = laws(book);
        page[book].isOrder = isOrder;
        page[book].isGroups = isGroups;
        return held;
    }

    private int laws(int book) {
        return (page[book].isOrder ? 1 : 0) + (page[book].isGroups ? 2 : 0);
    }

    public int level(int book) {
        needBook(book);
        if (levels.get(book).size() == 5) {
            throw new IllegalStateException();
        }
        levels.get(book).add(page[book].copy());
        return levels.get(book).size();
    }

    public int back(int book) {
        needBook(book);
        List<Page> open = levels.get(book);
        if (open.isEmpty()) {
            throw new IllegalStateException();
        }
        page[book] = open.remove(open.size() - 1);
        return open.size();
    }

    public String equation(int book, int k) {
        needEquation(book, k);
        int[] sides = page[book].equations.get(k);
        return text(sides[0]) + " = " + text(sides[1]) + (page[book].gone.contains(k) ? " gone" : "");
    }

    private List<Integer> live(int book) {
        List<Integer> all = new ArrayList<>();
        for (int k = 0; k < page[book].equations.size(); k++) {
            if (!page[book].gone.contains(k)) {
                all.add(k);
            }
        }
        return all;
    }

    private Set<Integer> bareLive(int book) {
        Set<Integer> all = new TreeSet<>();
        for (int k : live(book)) {
            int[] sides = page[book].equations.get(k);
            if (tree(sides[0]).isBare() && tree(sides[1]).isBare()) {
                all.add(k);
            }
        }
        return all;
    }

    public int ofBook(int book, int what) {
        needBook(book);
        needIn(what, 0, 8);
        switch (what) {
            case 0:
                return page[book].equations.size();
            case 1:
                return live(book).size();
            case 2:
                return bareLive(book).size();
            case 3:
                return page[book].unlikes.size();
            case 4:
                return levels.get(book).size();
            case 5:
                return laws(book);
            case 6:
                Set<Integer> classes = new TreeSet<>();
                for (int t : bareTerms()) {
                    classes.add(classOf(book, t));
                }
                return classes.size();
            case 7:
                return tables(book).size();
            default:
                return clash(book);
        }
    }

    private int clash(int book) {
        for (int[] pair : page[book].unlikes) {
            if (like(book, pair[0], pair[1])) {
                return page[book].unlikes.indexOf(pair);
            }
        }
        return -1;
    }

    private List<Integer> bareTerms() {
        List<Integer> all = new ArrayList<>();
        for (int t = 0; t < terms.size(); t++) {
            if (tree(t).isBare()) {
                all.add(t);
            }
        }
        return all;
    }

    // ---- what follows

    private static void close(boolean[][] m) {
        int n = m.length;
        for (int v = 0; v < n; v++) {
            for (int t = 0; t < n; t++) {
                for (int u = 0; u < n && m[t][v]; u++) {
                    m[t][u] |= m[v][u];
                }
            }
        }
    }

    /** Who is LIKE whom, round by round, by some EQUATIONS; what was found for the same ones is found no more. */
    private List<boolean[][]> rounds(int book, Set<Integer> equations) {
        StringBuilder asked = new StringBuilder().append(terms.size());
        for (int k : equations) {
            int[] sides = page[book].equations.get(k);
            asked.append(' ').append(sides[0]).append('=').append(sides[1]);
        }
        if (roundsOf.size() > 1000) {
            roundsOf.clear();
        }
        if (!roundsOf.containsKey(asked.toString())) {
            roundsOf.put(asked.toString(), roundsAnew(book, equations));
        }
        return roundsOf.get(asked.toString());
    }

    private List<boolean[][]> roundsAnew(int book, Set<Integer> equations) {
        int n = terms.size();
        boolean[][] m = new boolean[n][n];
        for (int t = 0; t < n; t++) {
            m[t][t] = true;
        }
        for (int k : equations) {
            int[] sides = page[book].equations.get(k);
            m[sides[0]][sides[1]] = true;
            m[sides[1]][sides[0]] = true;
        }
        close(m);
        List<boolean[][]> all = new ArrayList<>();
        while (true) {
            all.add(m);
            boolean[][] next = new boolean[n][];
            for (int t = 0; t < n; t++) {
                next[t] = m[t].clone();
            }
            boolean isMore = false;
            for (int t : bareTerms()) {
                for (int u : bareTerms()) {
                    if (!m[t][u] && partsLike(m, t, u)) {
                        next[t][u] = true;
                        isMore = true;
                    }
                }
            }
            if (!isMore) {
                return all;
            }
            close(next);
            m = next;
        }
    }

    private boolean partsLike(boolean[][] m, int t, int u) {
        Tree one = tree(t);
        Tree other = tree(u);
        if (one.sign != other.sign || one.sign < 6) {
            return false;
        }
        boolean isLeft = m[terms.indexOf(one.left)][terms.indexOf(other.left)];
        return isLeft && (one.sign == 6 || m[terms.indexOf(one.right)][terms.indexOf(other.right)]);
    }

    private boolean likeBy(int book, Set<Integer> equations, int t, int u) {
        List<boolean[][]> all = rounds(book, equations);
        return all.get(all.size() - 1)[t][u];
    }

    public boolean like(int book, int t, int u) {
        needBook(book);
        needTerm(t, u);
        needBare(t, u);
        return likeBy(book, bareLive(book), t, u);
    }

    public int classOf(int book, int t) {
        needBook(book);
        needTerm(t);
        needBare(t);
        List<boolean[][]> all = rounds(book, bareLive(book));
        for (int u = 0; u < terms.size(); u++) {
            if (all.get(all.size() - 1)[t][u]) {
                return u;
            }
        }
        throw new AssertionError();
    }

    public int round(int book, int t, int u) {
        needBook(book);
        needTerm(t, u);
        needBare(t, u);
        List<boolean[][]> all = rounds(book, bareLive(book));
        for (int r = 0; r < all.size(); r++) {
            if (all.get(r)[t][u]) {
                return r;
            }
        }
        return -1;
    }

    /** The EQUATION with the smallest number that has these sides, either way. */
    private int equationOf(int book, int t, int u) {
        for (int k : bareLive(book)) {
            int[] sides = page[book].equations.get(k);
            if (sides[0] == t && sides[1] == u || sides[0] == u && sides[1] == t) {
                return k;
            }
        }
        return -1;
    }

    private List<Integer> pathRow(int book, int t, int u) {
        int r = round(book, t, u);
        List<boolean[][]> all = rounds(book, bareLive(book));
        Map<Integer, List<Integer>> best = new TreeMap<>();
        best.put(t, List.of(t));
        Map<Integer, List<Integer>> last = new TreeMap<>(best);
        while (!best.containsKey(u)) {
            Map<Integer, List<Integer>> next = new TreeMap<>();
            for (List<Integer> row : last.values()) {
                int v = row.get(row.size() - 1);
                for (int w : bareTerms()) {
                    boolean isNext = equationOf(book, v, w) >= 0 || r > 0 && partsLike(all.get(r - 1), v, w);
                    if (isNext && !best.containsKey(w)) {
                        List<Integer> longer = new ArrayList<>(row);
                        longer.add(w);
                        if (!next.containsKey(w) || isAhead(longer, next.get(w))) {
                            next.put(w, longer);
                        }
                    }
                }
            }
            best.putAll(next);
            last = next;
        }
        return best.get(u);
    }

    private static boolean isAhead(List<Integer> one, List<Integer> other) {
        for (int k = 0; k < one.size(); k++) {
            if (!one.get(k).equals(other.get(k))) {
                return one.get(k) < other.get(k);
            }
        }
        return false;
    }

    private static String joined(Iterable<Integer> numbers) {
        StringBuilder text = new StringBuilder();
        for (int n : numbers) {
            text.append(text.length() > 0 ? " " : "").append(n);
        }
        return text.toString();
    }

    public String path(int book, int t, int u) {
        return round(book, t, u) < 0 ? "-" : joined(pathRow(book, t, u));
    }

    private Set<Integer> reasons(int book, int t, int u) {
        Set<Integer> left = new TreeSet<>(bareLive(book));
        for (int k = 13; k >= 0; k--) {
            Set<Integer> less = new TreeSet<>(left);
            if (less.remove(k) && likeBy(book, less, t, u)) {
                left = less;
            }
        }
        return left;
    }

    public String why(int book, int t, int u) {
        return like(book, t, u) ? joined(reasons(book, t, u)) : "-";
    }

    public boolean without(int book, int k, int t, int u) {
        needEquation(book, k);
        needTerm(t, u);
        needBare(t, u);
        Set<Integer> less = bareLive(book);
        less.remove(k);
        return likeBy(book, less, t, u);
    }

    public String clashWhy(int book) {
        needBook(book);
        int clash = clash(book);
        if (clash < 0) {
            return "-";
        }
        int[] pair = page[book].unlikes.get(clash);
        return joined(reasons(book, pair[0], pair[1]));
    }

    public int common() {
        Set<String> classes = new HashSet<>();
        for (int t : bareTerms()) {
            classes.add(classOf(0, t) + " " + classOf(1, t));
        }
        return classes.size();
    }

    // ---- steps and laws

    private boolean match(Tree pattern, Tree part, Map<Integer, Tree> puts) {
        if (pattern.sign >= 3 && pattern.sign <= 5) {
            Tree old = puts.putIfAbsent(pattern.sign, part);
            return old == null || old.equals(part);
        }
        if (pattern.sign != part.sign) {
            return false;
        }
        if (pattern.left != null && !match(pattern.left, part.left, puts)) {
            return false;
        }
        return pattern.right == null || match(pattern.right, part.right, puts);
    }

    /** All that comes of a TERM, if one part (or all) of it goes from one side to the other. */
    private List<Tree> rewritten(Tree whole, Tree from, Tree to) {
        List<Tree> all = new ArrayList<>();
        Map<Integer, Tree> puts = new HashMap<>();
        if (match(from, whole, puts)) {
            all.add(to.with(puts));
        }
        if (whole.left != null) {
            for (Tree part : rewritten(whole.left, from, to)) {
                all.add(new Tree(whole.sign, part, whole.right));
            }
        }
        if (whole.right != null) {
            for (Tree part : rewritten(whole.right, from, to)) {
                all.add(new Tree(whole.sign, whole.left, part));
            }
        }
        return all;
    }

    /** All within n STEPS; null, if these are more than 60 for this number of STEPS or a smaller one. */
    private Set<Tree> within(int book, Tree start, int n) {
        Set<Tree> come = new LinkedHashSet<>(Set.of(start));
        for (int step = 0; step < n; step++) {
            Set<Tree> more = new LinkedHashSet<>(come);
            for (Tree whole : come) {
                for (int k : live(book)) {
                    int[] sides = page[book].equations.get(k);
                    more.addAll(stepped(whole, tree(sides[0]), tree(sides[1])));
                    more.addAll(stepped(whole, tree(sides[1]), tree(sides[0])));
                }
            }
            if (more.size() > 60) {
                return null;
            }
            come = more;
        }
        return come;
    }

    private List<Tree> stepped(Tree whole, Tree from, Tree to) {
        List<Tree> all = new ArrayList<>();
        if (from.variables().containsAll(to.variables())) {
            for (Tree tree : rewritten(whole, from, to)) {
                if (tree.size() <= 15) {
                    all.add(tree);
                }
            }
        }
        return all;
    }

    public int steps(int book, int t, int u, int bound) {
        needBook(book);
        needTerm(t, u);
        needIn(bound, 0, 4);
        for (int n = 0; n <= bound; n++) {
            Set<Tree> come = within(book, tree(t), n);
            if (come == null) {
                return -9;
            }
            if (come.contains(tree(u))) {
                return n;
            }
        }
        return -1;
    }

    public int meet(int book, int t, int u, int bound) {
        needBook(book);
        needTerm(t, u);
        needIn(bound, 0, 3);
        if (within(book, tree(t), bound) == null || within(book, tree(u), bound) == null) {
            return -9;
        }
        for (int sum = 0; sum <= 2 * bound; sum++) {
            for (int i = 0; i <= sum; i++) {
                if (i <= bound && sum - i <= bound) {
                    Set<Tree> both = new HashSet<>(within(book, tree(t), i));
                    both.retainAll(within(book, tree(u), sum - i));
                    if (!both.isEmpty()) {
                        return sum;
                    }
                }
            }
        }
        return -1;
    }

    public int reached(int book, int t, int bound) {
        needBook(book);
        needTerm(t);
        needIn(bound, 0, 4);
        Set<Tree> come = within(book, tree(t), bound);
        return come == null ? -9 : come.size();
    }

    private String normalText(int book, Tree tree) {
        if (tree.sign < 6) {
            return tree.text();
        }
        if (tree.sign == 6) {
            return "s(" + normalText(book, tree.left) + ")";
        }
        List<String> parts = new ArrayList<>();
        addParts(book, tree, parts);
        if (page[book].isOrder) {
            parts.sort(null);
        }
        return "p(" + String.join(",", parts) + ")";
    }

    private void addParts(int book, Tree pair, List<String> parts) {
        for (Tree part : List.of(pair.left, pair.right)) {
            if (part.sign == 7 && page[book].isGroups) {
                addParts(book, part, parts);
            } else {
                parts.add(normalText(book, part));
            }
        }
    }

    public String normal(int book, int t) {
        needBook(book);
        needTerm(t);
        return normalText(book, tree(t));
    }

    // ---- proofs

    public int say(int proof, int left, int right, int rule, int i, int j) {
        needProof(proof);
        needTerm(left, right);
        needIn(rule, 0, 14);
        needIn(i, -1, 63);
        needIn(j, -1, 63);
        if (proofs.get(proof).size() == 24) {
            throw new IllegalStateException();
        }
        proofs.get(proof).add(new Line(left, right, rule, i, j));
        return proofs.get(proof).size() - 1;
    }

    public int unsay(int proof) {
        needProof(proof);
        List<Line> lines = proofs.get(proof);
        if (lines.isEmpty()) {
            throw new IllegalStateException();
        }
        lines.remove(lines.size() - 1);
        return lines.size();
    }

    public int find(int proof, int t, int u) {
        needProof(proof);
        needTerm(t, u);
        needBare(t, u);
        if (!like(0, t, u)) {
            return -9;
        }
        List<Line> lines = new ArrayList<>(proofs.get(proof));
        try {
            found(lines, t, u);
        } catch (TooLong e) {
            return -9;
        }
        proofs.get(proof).clear();
        proofs.get(proof).addAll(lines);
        return lines.size();
    }

    private int added(List<Line> lines, int t, int u, int rule, int i, int j) {
        if (lines.size() == 24) {
            throw new TooLong();
        }
        lines.add(new Line(t, u, rule, i, j));
        return lines.size() - 1;
    }

    private int found(List<Line> lines, int t, int u) {
        if (t == u) {
            return added(lines, t, t, 1, 0, 0);
        }
        List<Integer> row = pathRow(0, t, u);
        int whole = foundNext(lines, row.get(0), row.get(1));
        for (int n = 2; n < row.size(); n++) {
            int part = foundNext(lines, row.get(n - 1), row.get(n));
            whole = added(lines, t, row.get(n), 3, whole, part);
        }
        return whole;
    }

    private int foundNext(List<Line> lines, int v, int w) {
        int k = equationOf(0, v, w);
        if (k >= 0) {
            int[] sides = page[0].equations.get(k);
            int told = added(lines, sides[0], sides[1], 0, k, 0);
            return sides[0] == v ? told : added(lines, v, w, 2, told, 0);
        }
        Tree one = tree(v);
        Tree other = tree(w);
        int i = found(lines, terms.indexOf(one.left), terms.indexOf(other.left));
        int j = one.sign == 7 ? found(lines, terms.indexOf(one.right), terms.indexOf(other.right)) : 0;
        return added(lines, v, w, 4, i, j);
    }

    /** The numbers by which a line names lines. */
    List<Integer> named(Line line) {
        List<Integer> all = new ArrayList<>();
        boolean isFirst = line.rule >= 2 && line.rule <= 7 || line.rule >= 9 && line.rule <= 11;
        if (isFirst) {
            all.add(line.i);
        }
        if (isSecondNamed(line)) {
            all.add(line.j);
        }
        return all;
    }

    private boolean isSecondNamed(Line line) {
        boolean isWithin = line.rule == 4 && tree(line.left).sign == 7;
        return line.rule == 3 || isWithin || line.rule >= 9 && line.rule <= 11;
    }

    TreeSet<Integer> hangsOn(List<Line> lines, int k) {
        Line line = lines.get(k);
        TreeSet<Integer> set = new TreeSet<>();
        if (line.rule == 8) {
            set.add(k);
            return set;
        }
        for (int n : named(line)) {
            if (n >= 0 && n < k) {
                set.addAll(hangsOn(lines, n));
            }
        }
        int fault = line.rule >= 9 && line.rule <= 11 ? fault(lines, k) : 1;
        if (fault == 0 || fault == 5) {
            TreeSet<Integer> byStep = hangsOn(lines, line.j);
            byStep.remove(firstAssumption(lines, line));
            byStep.addAll(hangsOn(lines, line.i));
            return byStep;
        }
        return set;
    }

    private Integer firstAssumption(List<Line> lines, Line line) {
        for (int a : hangsOn(lines, line.j)) {
            if (lines.get(a).left == line.left && lines.get(a).right == line.right) {
                return a;
            }
        }
        return null;
    }

    private boolean standsIn(List<Line> lines, Set<Integer> set, int variable) {
        for (int a : set) {
            if (tree(lines.get(a).left).variables().contains(variable)
                    || tree(lines.get(a).right).variables().contains(variable)) {
                return true;
            }
        }
        return false;
    }

    int fault(List<Line> lines, int k) {
        Line line = lines.get(k);
        for (int n : named(line)) {
            if (n < 0 || n >= k) {
                return 1;
            }
        }
        if (line.rule == 0 && (line.i < 0 || line.i >= page[0].equations.size())
                || line.rule >= 5 && line.rule <= 7 && (line.j < 0 || line.j >= terms.size())
                || line.rule == 12 && !lemmas.containsKey(line.i)) {
            return 1;
        }
        if (line.rule == 0 && page[0].gone.contains(line.i) || line.rule == 12 && !stands(line.i)) {
            return 2;
        }
        if (!areSides(lines, line)) {
            return 3;
        }
        if (line.rule >= 9 && line.rule <= 11) {
            Integer assumption = firstAssumption(lines, line);
            if (assumption == null) {
                return 4;
            }
            Set<Integer> others = hangsOn(lines, line.j);
            others.remove(assumption);
            others.addAll(hangsOn(lines, line.i));
            return standsIn(lines, others, line.rule - 6) ? 5 : 0;
        }
        if (line.rule >= 5 && line.rule <= 7) {
            return standsIn(lines, hangsOn(lines, line.i), line.rule - 2) ? 5 : 0;
        }
        return 0;
    }

    private boolean areSides(List<Line> lines, Line line) {
        Tree t = tree(line.left);
        Tree u = tree(line.right);
        Line i = line.i >= 0 && line.i < lines.size() ? lines.get(line.i) : null;
        Line j = line.j >= 0 && line.j < lines.size() ? lines.get(line.j) : null;
        switch (line.rule) {
            case 0:
                int[] sides = page[0].equations.get(line.i);
                return sides[0] == line.left && sides[1] == line.right;
            case 1:
                return t.equals(u);
            case 2:
                return tree(i.left).equals(u) && tree(i.right).equals(t);
            case 3:
                return i.left == line.left && j.right == line.right && i.right == j.left;
            case 4:
                return t.sign >= 6 && t.sign == u.sign
                        && tree(i.left).equals(t.left) && tree(i.right).equals(u.left)
                        && (t.sign == 6 || tree(j.left).equals(t.right) && tree(j.right).equals(u.right));
            case 5:
            case 6:
            case 7:
                Map<Integer, Tree> by = Map.of(line.rule - 2, tree(line.j));
                return tree(i.left).with(by).equals(t) && tree(i.right).with(by).equals(u);
            case 9:
            case 10:
            case 11:
                int v = line.rule - 6;
                Map<Integer, Tree> start = Map.of(v, tree(0));
                Map<Integer, Tree> next = Map.of(v, new Tree(6, tree(v), null));
                return t.with(start).equals(tree(i.left)) && u.with(start).equals(tree(i.right))
                        && t.with(next).equals(tree(j.left)) && u.with(next).equals(tree(j.right));
            case 12:
                Line last = last(lemmas.get(line.i));
                return last.left == line.left && last.right == line.right;
            case 13:
                return normalText(0, t).equals(normalText(0, u));
            case 14:
                return t.isBare() && u.isBare() && like(0, line.left, line.right);
            default:
                return true;
        }
    }

    private static Line last(List<Line> lines) {
        return lines.get(lines.size() - 1);
    }

    boolean stands(int name) {
        return wrong(lemmas.get(name)) < 0;
    }

    private int wrong(List<Line> lines) {
        for (int k = 0; k < lines.size(); k++) {
            if (fault(lines, k) != 0) {
                return k;
            }
        }
        return -1;
    }

    boolean isAccepted(List<Line> lines) {
        return !lines.isEmpty() && wrong(lines) < 0;
    }

    private boolean usesInduction(List<Line> lines, int k) {
        Line line = lines.get(k);
        if (line.rule >= 9 && line.rule <= 11) {
            return true;
        }
        if (line.rule == 12) {
            return lemmas.containsKey(line.i) && lemmaUsesInduction(line.i);
        }
        for (int n : named(line)) {
            if (n >= 0 && n < k && usesInduction(lines, n)) {
                return true;
            }
        }
        return false;
    }

    private boolean lemmaUsesInduction(int name) {
        List<Line> lines = lemmas.get(name);
        for (int k = 0; k < lines.size(); k++) {
            if (usesInduction(lines, k)) {
                return true;
            }
        }
        return false;
    }

    public int shorten(int proof) {
        needProof(proof);
        List<Line> old = proofs.get(proof);
        if (!isAccepted(old)) {
            return -9;
        }
        List<Line> lines = new ArrayList<>(old);
        int[] standIn = new int[lines.size()];
        for (int k = 0; k < lines.size(); k++) {
            standIn[k] = k;
            if (lines.get(k).rule == 8) {
                continue;
            }
            lines.set(k, renamed(lines.get(k), standIn));
            for (int n = k - 1; n >= 0; n--) {
                boolean isSame = old.get(n).left == old.get(k).left && old.get(n).right == old.get(k).right
                        && hangsOn(old, n).equals(hangsOn(old, k));
                if (standIn[n] == n && isSame) {
                    standIn[k] = n;
                }
            }
        }
        TreeSet<Integer> stay = new TreeSet<>();
        addNamed(lines, standIn[lines.size() - 1], stay);
        int[] number = new int[lines.size()];
        List<Line> left = new ArrayList<>();
        for (int k : stay) {
            number[k] = left.size();
            left.add(renamed(lines.get(k), number));
        }
        int went = lines.size() - left.size();
        old.clear();
        old.addAll(left);
        return went;
    }

    private Line renamed(Line line, int[] number) {
        int count = named(line).size();
        int i = count > 0 ? number[line.i] : line.i;
        int j = count > 1 ? number[line.j] : line.j;
        return new Line(line.left, line.right, line.rule, i, j);
    }

    private void addNamed(List<Line> lines, int k, Set<Integer> stay) {
        if (stay.add(k)) {
            for (int n : named(lines.get(k))) {
                addNamed(lines, n, stay);
            }
        }
    }

    public int join(int proof, int other) {
        needProof(proof);
        needProof(other);
        if (proof == other) {
            throw new IllegalArgumentException();
        }
        List<Line> lines = new ArrayList<>(proofs.get(proof));
        int own = lines.size();
        for (Line line : proofs.get(other)) {
            int count = named(line).size();
            int i = line.i + (count > 0 ? own : 0);
            int j = line.j + (count > 1 ? own : 0);
            lines.add(new Line(line.left, line.right, line.rule, i, j));
        }
        if (own > 0 && lines.size() > own && lines.get(own - 1).right == last(lines).left) {
            lines.add(new Line(lines.get(own - 1).left, last(lines).right, 3, own - 1, lines.size() - 1));
        }
        if (lines.size() > 24) {
            return -9;
        }
        proofs.get(proof).clear();
        proofs.get(proof).addAll(lines);
        return lines.size();
    }

    public String line(int proof, int k) {
        needLine(proof, k);
        Line line = proofs.get(proof).get(k);
        return text(line.left) + " = " + text(line.right) + ": " + line.rule + " " + line.i + " " + line.j;
    }

    public int ofLine(int proof, int k, int what) {
        needLine(proof, k);
        needIn(what, 0, 7);
        List<Line> lines = proofs.get(proof);
        Line line = lines.get(k);
        switch (what) {
            case 0:
                return fault(lines, k);
            case 1:
                return hangsOn(lines, k).size();
            case 2:
                return usesInduction(lines, k) ? 1 : 0;
            default:
                return new int[] {line.rule, line.left, line.right, line.i, line.j}[what - 3];
        }
    }

    public String hangs(int proof, int k) {
        needLine(proof, k);
        return joined(hangsOn(proofs.get(proof), k));
    }

    public int firstWrong(int proof) {
        needProof(proof);
        return wrong(proofs.get(proof));
    }

    public int fails(int proof, int k) {
        needLine(proof, k);
        List<Line> lines = proofs.get(proof);
        for (int table : tables(0)) {
            boolean isAsked = !usesInduction(lines, k) || isBuilt(table);
            if (isAsked && !holdsIn(table, lines, k)) {
                return table;
            }
        }
        return -1;
    }

    private boolean holdsIn(int table, List<Line> lines, int k) {
        Set<Integer> assumptions = hangsOn(lines, k);
        for (int values = 0; values < 8; values++) {
            boolean isAsked = true;
            for (int a : assumptions) {
                isAsked &= isSame(table, lines.get(a), values);
            }
            if (isAsked && !isSame(table, lines.get(k), values)) {
                return false;
            }
        }
        return true;
    }

    private boolean isSame(int table, Line line, int values) {
        return value(table, tree(line.left), values) == value(table, tree(line.right), values);
    }

    // ---- lemmas

    private TreeSet<Integer> usedBy(int name) {
        TreeSet<Integer> all = new TreeSet<>();
        for (Line line : lemmas.get(name)) {
            if (line.rule == 12 && lemmas.containsKey(line.i)) {
                all.add(line.i);
                all.addAll(usedBy(line.i));
            }
        }
        return all;
    }

    public int keep(int name, int proof) {
        if (name < 0 || name > 5) {
            throw new IndexOutOfBoundsException();
        }
        needProof(proof);
        List<Line> lines = proofs.get(proof);
        if (!isAccepted(lines) || !hangsOn(lines, lines.size() - 1).isEmpty()) {
            return -9;
        }
        for (Line line : lines) {
            if (line.rule == 12 && (line.i == name || usedBy(line.i).contains(name))) {
                return -9;
            }
        }
        return lemmas.put(name, new ArrayList<>(lines)) == null ? 0 : 1;
    }

    public int drop(int name) {
        if (lemmas.remove(name) == null) {
            throw new IndexOutOfBoundsException();
        }
        return lemmas.size();
    }

    public int ofLemma(int name, int what) {
        if (!lemmas.containsKey(name)) {
            throw new IndexOutOfBoundsException();
        }
        needIn(what, 0, 5);
        List<Line> lines = lemmas.get(name);
        switch (what) {
            case 0:
                return lines.size();
            case 1:
                return last(lines).left;
            case 2:
                return last(lines).right;
            case 3:
                return stands(name) ? 1 : 0;
            case 4:
                return lemmaUsesInduction(name) ? 1 : 0;
            default:
                return usedBy(name).size();
        }
    }

    // ---- tables

    private static int digit(int table, int place) {
        return table >> place & 1;
    }

    private static int evaluated(int table, Tree tree, int values) {
        if (tree.sign < 3) {
            return digit(table, tree.sign);
        }
        if (tree.sign < 6) {
            return digit(values, tree.sign - 3);
        }
        int left = evaluated(table, tree.left, values);
        if (tree.sign == 6) {
            return digit(table, 3 + left);
        }
        return digit(table, 5 + 2 * left + evaluated(table, tree.right, values));
    }

    private int value(int table, Tree tree, int values) {
        boolean[] all = valuesOf.get(tree);
        if (all == null) {
            all = new boolean[4096];
            for (int k = 0; k < all.length; k++) {
                all[k] = evaluated(k / 8, tree, k % 8) == 1;
            }
            valuesOf.put(tree, all);
        }
        return all[table * 8 + values] ? 1 : 0;
    }

    private boolean equal(int table, Tree t, Tree u) {
        for (int values = 0; values < 8; values++) {
            if (value(table, t, values) != value(table, u, values)) {
                return false;
            }
        }
        return true;
    }

    private boolean isBuilt(int table) {
        return evaluated(table, new Tree(6, tree(0), null), 0) != evaluated(table, tree(0), 0);
    }

    private List<Integer> tables(int book) {
        Tree x = tree(3);
        Tree y = tree(4);
        Tree z = tree(5);
        Tree xy = new Tree(7, x, y);
        List<Integer> all = new ArrayList<>();
        for (int table = 0; table < 512; table++) {
            boolean isOne = true;
            for (int k : live(book)) {
                int[] sides = page[book].equations.get(k);
                isOne &= equal(table, tree(sides[0]), tree(sides[1]));
            }
            if (page[book].isOrder) {
                isOne &= equal(table, xy, new Tree(7, y, x));
            }
            if (page[book].isGroups) {
                isOne &= equal(table, new Tree(7, xy, z), new Tree(7, x, new Tree(7, y, z)));
            }
            if (isOne) {
                all.add(table);
            }
        }
        return all;
    }

    public int tableAt(int book, int k) {
        needBook(book);
        List<Integer> all = tables(book);
        if (k < 0 || k >= all.size()) {
            throw new IndexOutOfBoundsException();
        }
        return all.get(k);
    }

    public int valueIn(int table, int t, int values) {
        needTerm(t);
        needIn(table, 0, 511);
        needIn(values, 0, 7);
        return evaluated(table, tree(t), values);
    }

    public boolean equalIn(int table, int t, int u) {
        needTerm(t, u);
        needIn(table, 0, 511);
        return equal(table, tree(t), tree(u));
    }

    // ---- the house

    public int house(int what) {
        needIn(what, 0, 6);
        int lines = 0;
        int accepted = 0;
        for (List<Line> proof : proofs) {
            lines += proof.size();
            accepted += isAccepted(proof) ? 1 : 0;
        }
        int standing = 0;
        for (int name : lemmas.keySet()) {
            standing += stands(name) ? 1 : 0;
        }
        int bare = bareTerms().size();
        return new int[] {terms.size(), bare, lines, accepted, lemmas.size(), standing, knocks}[what];
    }

    public int knock() {
        return ++knocks;
    }

    public boolean isSound() {
        for (int p = 0; p < 3; p++) {
            int end = firstWrong(p) < 0 ? proofs.get(p).size() : firstWrong(p);
            for (int k = 0; k < end; k++) {
                if (fails(p, k) >= 0) {
                    return false;
                }
            }
        }
        for (int book = 0; book < 2; book++) {
            int t = bareTerms().get(bareTerms().size() - 1);
            int u = classOf(book, t);
            for (int table : tables(book)) {
                if (!equal(table, tree(t), tree(u))) {
                    return false;
                }
            }
            Set<Integer> set = reasons(book, t, u);
            if (!likeBy(book, set, t, u)) {
                return false;
            }
            for (int k : set) {
                Set<Integer> less = new TreeSet<>(set);
                less.remove(k);
                if (likeBy(book, less, t, u)) {
                    return false;
                }
            }
        }
        for (int name : lemmas.keySet()) {
            if (usedBy(name).contains(name)) {
                return false;
            }
        }
        return true;
    }

    private long sum;

    private void add(long v) {
        sum = sum * 31 + v;
    }

    private void add(String text) {
        for (char c : text.toCharArray()) {
            add(c);
        }
    }

    public long digest() {
        sum = 6111;
        for (int what = 0; what <= 6; what++) {
            add(house(what));
        }
        for (int t = 6; t < terms.size(); t++) {
            add(text(t));
        }
        for (int book = 0; book < 2; book++) {
            for (int what = 0; what <= 8; what++) {
                add(ofBook(book, what));
            }
            for (int k = 0; k < page[book].equations.size(); k++) {
                add(equation(book, k));
            }
            for (int t : bareTerms()) {
                add(classOf(book, t));
            }
        }
        add(common());
        for (int p = 0; p < 3; p++) {
            add(firstWrong(p));
            for (int k = 0; k < proofs.get(p).size(); k++) {
                for (int what = 0; what <= 7; what++) {
                    add(ofLine(p, k, what));
                }
                add(fails(p, k));
            }
        }
        for (int name : lemmas.keySet()) {
            add(name);
            for (int what = 0; what <= 5; what++) {
                add(ofLemma(name, what));
            }
        }
        add(isSound() ? 1 : 0);
        return sum;
    }
}
