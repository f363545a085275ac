import java.util.ArrayList;
import java.util.List;
import java.util.Random;
import java.util.TreeSet;

/** Random runs of calls (always the same ones), each call compared with the Oracle; digest() now and then. */
public final class RandomRunsTest {
    private final Random random;
    private final Runner run;
    private final int mostTerms;

    private RandomRunsTest(int seed) {
        random = new Random(seed);
        run = new Runner("run " + seed);
        mostTerms = 8 + random.nextInt(64);
    }

    public static void main(String[] args) {
        int from = args.length > 0 ? Integer.parseInt(args[0]) : 0;
        int to = args.length > 1 ? Integer.parseInt(args[1]) : 250;
        int wrong = 0;
        for (int seed = from; seed < to; seed++) {
            wrong += new RandomRunsTest(seed).isRight() ? 0 : 1;
        }
        System.out.println("RandomRunsTest: " + (to - from) + " runs, " + wrong + " wrong");
        if (args.length > 2) {
            new java.util.TreeMap<>(Runner.SEEN).forEach((k, v) -> System.out.println(k + ": " + v));
        }
        if (wrong > 0) {
            System.exit(1);
        }
    }

    private boolean isRight() {
        int calls = 60 + random.nextInt(400);
        // In some runs all is asked behind each change: so what is kept and no more so is seen.
        boolean isAskedOften = chance(20);
        while (run.callsMade() < calls && !run.isWrong()) {
            act();
            if (isAskedOften) {
                run.call("digest");
                run.call("normal", 1, any(count()));
            }
        }
        run.call("digest");
        run.call("isSound");
        run.call("digest");
        return !run.isWrong();
    }

    private int any(int bound) {
        return random.nextInt(bound);
    }

    private boolean chance(int percent) {
        return random.nextInt(100) < percent;
    }

    private int count() {
        return run.oracle.terms.size();
    }

    private int badNumber(int near) {
        int[] all = {-1, near, near + 1, 64, -2, Integer.MIN_VALUE, Integer.MAX_VALUE, 512, 100};
        return all[any(all.length)];
    }

    private int term() {
        return chance(3) ? badNumber(count()) : any(count());
    }

    private int bare() {
        if (chance(4)) {
            return term();
        }
        List<Integer> all = new ArrayList<>();
        for (int t = 0; t < count(); t++) {
            if (run.oracle.terms.get(t).isBare()) {
                all.add(t);
            }
        }
        return all.get(any(all.size()));
    }

    private int book() {
        return chance(2) ? badNumber(2) : chance(70) ? 0 : 1;
    }

    private int proof() {
        return chance(2) ? badNumber(3) : chance(60) ? 0 : 1 + any(2);
    }

    private int equationOf(int book) {
        int all = book == 0 || book == 1 ? run.oracle.book(book).equations.size() : 1;
        return all == 0 || chance(5) ? badNumber(all) : any(all);
    }

    private int lineOf(int proof) {
        int all = proof >= 0 && proof < 3 ? run.oracle.proofs.get(proof).size() : 1;
        return all == 0 || chance(4) ? badNumber(all) : any(all);
    }

    private int lemma() {
        List<Integer> names = new ArrayList<>(run.oracle.lemmas.keySet());
        return names.isEmpty() || chance(12) ? what(6) : names.get(any(names.size()));
    }

    private int what(int bound) {
        return chance(3) ? badNumber(bound) : any(bound);
    }

    private void act() {
        switch (any(12)) {
            case 0:
            case 1:
                makeTerms();
                break;
            case 2:
            case 3:
                changeBook();
                break;
            case 4:
            case 5:
                askBook();
                break;
            case 6:
                askSteps();
                break;
            case 7:
            case 8:
            case 9:
                sayLine(chance(75) ? 0 : any(3));
                break;
            case 10:
                changeProof();
                break;
            default:
                askRest();
                break;
        }
    }

    private void makeTerms() {
        if (count() >= mostTerms && chance(90)) {
            run.call("text", term());
            return;
        }
        int kind = any(10);
        if (kind < 3) {
            run.call("term", 7, chance(50) ? bare() : term(), chance(50) ? bare() : term());
        } else if (kind < 6) {
            run.call("term", 6, chance(50) ? bare() : term(), any(70) - 2);
        } else if (kind < 7) {
            run.call("term", what(8), term(), term());
        } else if (kind < 9) {
            run.call("put", term(), 3 + any(3), term());
        } else {
            run.call("put", term(), any(8), term());
        }
    }

    private void changeBook() {
        int b = book();
        switch (any(15)) {
            case 0:
            case 1:
            case 2:
            case 3:
                run.call("tell", b, bare(), bare());
                break;
            case 4:
            case 5:
                run.call("tell", b, term(), term());
                break;
            case 6:
            case 7:
                run.call("unlike", b, bare(), bare());
                break;
            case 8:
            case 9:
                run.call("takeBack", b, equationOf(b));
                break;
            case 10:
                run.call("law", b, any(2), any(2));
                break;
            case 11:
            case 12:
                run.call("level", b);
                break;
            case 13:
                run.call("back", b);
                break;
            default:
                run.call("equation", b, equationOf(b));
                break;
        }
    }

    private void askBook() {
        int b = book();
        switch (any(10)) {
            case 0:
                run.call("ofBook", b, what(9));
                break;
            case 1:
                run.call("like", b, bare(), bare());
                break;
            case 2:
                run.call("classOf", b, bare());
                break;
            case 3:
                run.call("round", b, bare(), bare());
                break;
            case 4:
                run.call("path", b, bare(), bare());
                break;
            case 5:
                run.call("why", b, bare(), bare());
                break;
            case 6:
                run.call("without", b, equationOf(b), bare(), bare());
                break;
            case 7:
                run.call("clashWhy", b);
                break;
            case 8:
                run.call("common");
                break;
            default:
                run.call("tableAt", b, chance(20) ? badNumber(512) : any(40));
                break;
        }
    }

    private void askSteps() {
        int b = book();
        int[] all = {term(), term()};
        switch (any(4)) {
            case 0:
                run.call("steps", b, all[0], all[1], chance(3) ? badNumber(5) : any(5));
                break;
            case 1:
                run.call("meet", b, all[0], all[1], chance(3) ? badNumber(4) : any(4));
                break;
            case 2:
                run.call("reached", b, all[0], chance(3) ? badNumber(5) : any(5));
                break;
            default:
                run.call("normal", b, all[0]);
                break;
        }
    }

    private void changeProof() {
        int p = proof();
        switch (any(11)) {
            case 0:
            case 1:
                run.call("unsay", p);
                break;
            case 2:
            case 3:
                run.call("find", p, bare(), bare());
                break;
            case 4:
                run.call("shorten", p);
                break;
            case 5:
                run.call("join", p, proof());
                break;
            case 6:
            case 7:
            case 8:
                trim(p);
                run.call("keep", what(6), p);
                break;
            case 9:
                if (chance(30)) {
                    run.call("drop", lemma());
                }
                break;
            default:
                findLike(p);
                break;
        }
    }

    /** Takes lines away up to the first wrong one, so that the rest is ACCEPTED. */
    private void trim(int p) {
        int wrong = run.number("firstWrong", p);
        while (wrong >= 0 && chance(97) && run.oracle.proofs.get(p).size() > wrong) {
            run.call("unsay", p);
        }
    }

    private void findLike(int p) {
        int t = bare();
        int u = bare();
        for (int k = 0; k < 30 && t < count() && u < count() && t >= 0 && u >= 0; k++) {
            if (run.oracle.terms.get(t).isBare() && run.oracle.terms.get(u).isBare() && t != u
                    && run.oracle.like(0, t, u)) {
                break;
            }
            u = bare();
        }
        run.call("find", p, t, u);
        run.call("path", 0, t, u);
        run.call("why", 0, t, u);
        run.call("round", 0, t, u);
    }

    private void askRest() {
        int p = proof();
        switch (any(11)) {
            case 0:
                run.call("line", p, lineOf(p));
                break;
            case 1:
                run.call("ofLine", p, lineOf(p), what(8));
                break;
            case 2:
                run.call("hangs", p, lineOf(p));
                break;
            case 3:
                run.call("firstWrong", p);
                break;
            case 4:
                run.call("fails", p, lineOf(p));
                break;
            case 5:
                run.call("ofLemma", lemma(), what(6));
                run.call("ofLemma", lemma(), 3 + any(3));
                break;
            case 6:
                run.call("valueIn", chance(5) ? badNumber(512) : any(512), term(), what(8));
                break;
            case 7:
                run.call("equalIn", chance(5) ? badNumber(512) : any(512), term(), term());
                break;
            case 8:
                run.call("house", what(7));
                break;
            case 9:
                run.call("ofTerm", term(), what(6));
                break;
            default:
                run.call(chance(50) ? "knock" : chance(70) ? "isSound" : "digest");
                break;
        }
    }

    // ---- lines that are mostly RIGHT

    private List<Oracle.Line> lines(int p) {
        return run.oracle.proofs.get(p);
    }

    private void say(int p, int left, int right, int rule, int i, int j) {
        int[] all = {left, right, rule, i, j};
        if (chance(6)) {
            int at = any(5);
            all[at] = at < 2 ? term() : at == 2 ? what(15) : any(66) - 2;
        }
        if (chance(6)) {
            all[3 + any(2)] = any(6);
        }
        run.call("say", p, all[0], all[1], all[2], all[3], all[4]);
    }

    private void sayLine(int p) {
        int rule = any(16);
        int n = lines(p).size();
        int j = any(3) - 1;
        if (n == 24 && chance(80)) {
            run.call("unsay", p);
            return;
        }
        if (rule == 15) {
            sayInduction(p);
        } else if (rule == 0) {
            sayTold(p, j);
        } else if (rule == 1) {
            int t = term();
            say(p, t, t, 1, j, j);
        } else if (rule == 8) {
            sayAssumption(p, j);
        } else if (rule == 12) {
            sayLemma(p, j);
        } else if (rule == 13 || rule == 14) {
            sayByBook(p, rule, j);
        } else if (n > 0) {
            sayByLines(p, rule, j);
        }
    }

    private void sayTold(int p, int j) {
        List<int[]> all = run.oracle.book(0).equations;
        if (all.isEmpty()) {
            say(p, term(), term(), 0, j, j);
            return;
        }
        int i = any(all.size());
        say(p, all.get(i)[0], all.get(i)[1], 0, i, j);
    }

    private void sayAssumption(int p, int j) {
        if (!lines(p).isEmpty() && chance(50)) {
            Oracle.Line line = lines(p).get(any(lines(p).size()));
            say(p, line.left(), line.right(), 8, j, j);
        } else {
            say(p, term(), term(), 8, j, j);
        }
    }

    private void sayLemma(int p, int j) {
        int name = lemma();
        List<Oracle.Line> lemma = run.oracle.lemmas.get(name);
        if (lemma == null) {
            say(p, term(), term(), 12, name, j);
        } else {
            Oracle.Line last = lemma.get(lemma.size() - 1);
            say(p, last.left(), last.right(), 12, name, j);
        }
    }

    private void sayByBook(int p, int rule, int j) {
        int t = bare();
        int u = bare();
        for (int k = 0; k < 20 && t >= 0 && u >= 0 && t < count() && u < count(); k++) {
            boolean isFit = rule == 13 ? t != u && run.oracle.normal(0, t).equals(run.oracle.normal(0, u))
                    : run.oracle.terms.get(t).isBare() && run.oracle.terms.get(u).isBare()
                    && t != u && run.oracle.like(0, t, u);
            if (isFit) {
                break;
            }
            t = rule == 13 ? term() : bare();
            u = rule == 13 ? term() : bare();
        }
        say(p, t, u, rule, j, j);
    }

    private void sayByLines(int p, int rule, int j) {
        List<Oracle.Line> all = lines(p);
        int i = any(all.size());
        Oracle.Line one = all.get(i);
        if (rule == 2) {
            say(p, one.right(), one.left(), 2, i, j);
        } else if (rule == 3) {
            int k = any(all.size());
            for (int n = 0; n < 20 && all.get(k).left() != one.right(); n++) {
                k = any(all.size());
            }
            say(p, one.left(), all.get(k).right(), 3, i, k);
        } else if (rule == 4) {
            sayWithin(p, i);
        } else if (rule <= 7) {
            int by = chance(95) ? any(count()) : term();
            int variable = rule - 2;
            int left = run.number("put", one.left(), variable, by);
            int right = run.number("put", one.right(), variable, by);
            if (left >= 0 && right >= 0) {
                say(p, left, right, rule, i, by);
            }
        } else {
            sayFlatInduction(p, rule);
        }
    }

    private void sayWithin(int p, int i) {
        Oracle.Line one = lines(p).get(i);
        if (chance(50)) {
            int left = run.number("term", 6, one.left(), 0);
            int right = run.number("term", 6, one.right(), 0);
            if (left >= 0 && right >= 0) {
                say(p, left, right, 4, i, any(30) - 1);
            }
            return;
        }
        int j = any(lines(p).size());
        Oracle.Line other = lines(p).get(j);
        int left = run.number("term", 7, one.left(), other.left());
        int right = run.number("term", 7, one.right(), other.right());
        if (left >= 0 && right >= 0) {
            say(p, left, right, 4, i, j);
        }
    }

    /** INDUCT of sides without the variable: both lines that it names have its own sides. */
    private void sayFlatInduction(int p, int rule) {
        List<Oracle.Line> all = lines(p);
        int j = any(all.size());
        for (int k = 0; k < 20 && all.get(j).rule() != 8; k++) {
            j = any(all.size());
        }
        Oracle.Line step = all.get(j);
        int i = any(all.size());
        for (int k = 0; k < 20; k++) {
            if (all.get(i).left() == step.left() && all.get(i).right() == step.right()) {
                break;
            }
            i = any(all.size());
        }
        say(p, step.left(), step.right(), rule, i, j);
    }

    /** INDUCT of s(..v..) or v: t = t, with assumptions more, so that all FAULTS of INDUCT come. */
    private void sayInduction(int p) {
        int v = 3 + any(3);
        int next = run.number("term", 6, v, 0);
        int other = run.number("term", 6, 3 + any(3), 0);
        int n = lines(p).size();
        if (next < 0 || other < 0 || n > 16) {
            return;
        }
        say(p, v, v, 8, 0, 0);
        say(p, 0, 0, 1, 0, 0);
        int i = n + 1;
        if (chance(30)) {
            // The base HANGS ON something.
            int with = any(count());
            say(p, 0, with, 8, 0, 0);
            say(p, with, 0, 2, n + 2, 0);
            say(p, 0, 0, 3, n + 2, n + 3);
            i = n + 4;
        }
        say(p, next, next, 4, n, 0);
        int j = lines(p).size() - 1;
        if (chance(40)) {
            // The step HANGS ON something more.
            int with = chance(50) ? v : any(count());
            say(p, with, with, 8, 0, 0);
            int row = lines(p).size() - 1;
            int both = run.number("term", 7, next, with);
            if (both >= 0 && row >= 0) {
                say(p, both, both, 4, j, row);
            }
            say(p, next, next, 3, j, j);
        }
        if (chance(20)) {
            // A step that HANGS ON the assumption and, by ROW, on one more that may have the same sides.
            int with = chance(50) ? next : other;
            say(p, next, with, 8, 0, 0);
            say(p, with, next, 2, lines(p).size() - 1, 0);
            say(p, next, next, 3, j, j);
        }
        say(p, v, v, 6 + v, i, chance(80) ? j : lines(p).size() - 1);
        run.call("hangs", p, lines(p).size() - 1);
        TreeSet<Integer> faults = new TreeSet<>();
        for (int k = n; k < lines(p).size(); k++) {
            faults.add(run.number("ofLine", p, k, 0));
        }
        run.call("fails", p, lines(p).size() - 1);
    }
}
