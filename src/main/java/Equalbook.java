/**
 * Two books of equations, what follows from them, and proofs, line by line.
 *
 * <p>TERMS, EQUATIONS and lines stand in rows of numbers that the constructor makes, since all calls of a run
 * live in one room: after the constructor only the texts that are answered are made. What follows from the
 * state is found when it is asked for, and kept until the state changes.
 */
public final class Equalbook {
    private static final int NONE = -1;
    private static final int REFUSED = -9;

    private static final int SUCCESSOR = 6;
    private static final int PAIR = 7;
    private static final int FIRST_VARIABLE = 3;
    private static final int LAST_VARIABLE = 5;
    private static final int FIRST_TERMS = 6;
    private static final int MOST_TERMS = 64;
    private static final int MOST_SIZE = 15;

    private static final int ORDER = 1;
    private static final int GROUPS = 2;

    private static final int BOOKS = 2;
    private static final int PROOFS = 3;
    private static final int NAMES = 6;
    private static final int TABLES = 512;
    private static final int WORDS = 64;
    private static final int LANES = 8;

    private static final int TOLD = 0;
    private static final int SAME = 1;
    private static final int TURNED = 2;
    private static final int ROW = 3;
    private static final int WITHIN = 4;
    private static final int FIRST_PUT = 5;
    private static final int LAST_PUT = 7;
    private static final int ASSUME = 8;
    private static final int FIRST_INDUCT = 9;
    private static final int LAST_INDUCT = 11;
    private static final int LEMMA = 12;
    private static final int LAWS = 13;
    private static final int CLASSES = 14;

    private static final int RIGHT = 0;
    private static final int NOT_THERE = 1;
    private static final int NO_LONGER = 2;
    private static final int OTHER_SIDES = 3;
    private static final int NO_ASSUMPTION = 4;
    private static final int VARIABLE_STANDS = 5;

    private final Terms terms;
    private final Desk first;
    private final Desk second;
    private final Walk walk;
    private final Walk otherWalk;
    private final Lines lines;
    private final Checks checks;
    private final Finder finder;
    private final Shortener shortener;
    private final StringBuilder ink;
    private int knocks;

    public Equalbook() {
        terms = new Terms();
        first = new Desk(terms);
        second = new Desk(terms);
        walk = new Walk(terms);
        otherWalk = new Walk(terms);
        lines = new Lines(terms);
        checks = new Checks(terms, first, lines);
        finder = new Finder(terms, first, lines);
        shortener = new Shortener(lines, checks);
        ink = new StringBuilder();
    }

    // ---- terms

    public int term(int sign, int left, int right) throws IllegalArgumentException, IndexOutOfBoundsException {
        if (sign < 0 || sign > PAIR) {
            throw new IllegalArgumentException("no such sign");
        }
        if (sign < SUCCESSOR) {
            return sign;
        }
        needTerm(left);
        if (sign == PAIR) {
            needTerm(right);
        }
        int before = terms.count;
        int made = terms.make(sign, left, sign == PAIR ? right : NONE);
        forgetIfMore(before);
        return made;
    }

    public int put(int t, int variable, int by) throws IndexOutOfBoundsException, IllegalArgumentException {
        needTerm(t);
        needTerm(by);
        if (variable < FIRST_VARIABLE || variable > LAST_VARIABLE) {
            throw new IllegalArgumentException("no such variable");
        }
        int before = terms.count;
        int made = terms.makePut(t, variable, by);
        forgetIfMore(before);
        return made;
    }

    public String text(int t) throws IndexOutOfBoundsException {
        needTerm(t);
        ink.setLength(0);
        terms.write(ink, t);
        return ink.toString();
    }

    public int ofTerm(int t, int what) throws IndexOutOfBoundsException, IllegalArgumentException {
        needTerm(t);
        switch (what) {
            case 0:
                return terms.signOf(t);
            case 1:
                return terms.sizeOf(t);
            case 2:
                return terms.isBare(t) ? 1 : 0;
            case 3:
                return terms.leftOf(t);
            case 4:
                return terms.rightOf(t);
            case 5:
                return terms.variablesOf(t);
            default:
                throw new IllegalArgumentException("no such question");
        }
    }

    // ---- books

    public int tell(int book, int left, int right) throws IndexOutOfBoundsException, IllegalStateException {
        needBook(book);
        needTerm(left);
        needTerm(right);
        Book told = desk(book).book;
        if (told.count >= Book.MOST_EQUATIONS) {
            throw new IllegalStateException("the book is full");
        }
        forgetAll();
        return told.add(left, right);
    }

    public int unlike(int book, int t, int u)
            throws IndexOutOfBoundsException, IllegalArgumentException, IllegalStateException {
        needBareTwo(book, t, u);
        Book told = desk(book).book;
        if (told.unlikes >= Book.MOST_UNLIKES) {
            throw new IllegalStateException("no place for one more pair");
        }
        return told.addUnlike(t, u);
    }

    public int takeBack(int book, int k) throws IndexOutOfBoundsException, IllegalStateException {
        needEquation(book, k);
        Book told = desk(book).book;
        if (!told.isLive(k)) {
            throw new IllegalStateException("the equation is gone");
        }
        told.takeAway(k);
        forgetAll();
        return told.countLive();
    }

    public int law(int book, boolean isOrder, boolean isGroups) throws IndexOutOfBoundsException {
        needBook(book);
        Book told = desk(book).book;
        int held = told.laws;
        told.laws = (isOrder ? ORDER : 0) + (isGroups ? GROUPS : 0);
        forgetAll();
        return held;
    }

    public int level(int book) throws IndexOutOfBoundsException, IllegalStateException {
        needBook(book);
        Book told = desk(book).book;
        if (told.open >= Book.MOST_LEVELS) {
            throw new IllegalStateException("all levels are open");
        }
        told.openLevel();
        return told.open;
    }

    public int back(int book) throws IndexOutOfBoundsException, IllegalStateException {
        needBook(book);
        Book told = desk(book).book;
        if (told.open <= 0) {
            throw new IllegalStateException("no level is open");
        }
        told.goBack();
        forgetAll();
        return told.open;
    }

    public String equation(int book, int k) throws IndexOutOfBoundsException {
        needEquation(book, k);
        ink.setLength(0);
        writeEquation(desk(book).book, k);
        return ink.toString();
    }

    public int ofBook(int book, int what) throws IndexOutOfBoundsException, IllegalArgumentException {
        needBook(book);
        needQuestion(what, 8);
        Desk asked = desk(book);
        asked.classes.refresh();
        asked.tables.refresh();
        return asked.answer(what);
    }

    // ---- what follows

    public boolean like(int book, int t, int u) throws IndexOutOfBoundsException, IllegalArgumentException {
        needBareTwo(book, t, u);
        Classes classes = desk(book).classes;
        classes.refresh();
        return classes.areLike(t, u);
    }

    public int classOf(int book, int t) throws IndexOutOfBoundsException, IllegalArgumentException {
        needBareTwo(book, t, t);
        Classes classes = desk(book).classes;
        classes.refresh();
        return classes.smallestLike(t);
    }

    public int round(int book, int t, int u) throws IndexOutOfBoundsException, IllegalArgumentException {
        needBareTwo(book, t, u);
        Classes classes = desk(book).classes;
        classes.refresh();
        return classes.roundOf(t, u);
    }

    public String path(int book, int t, int u) throws IndexOutOfBoundsException, IllegalArgumentException {
        needBareTwo(book, t, u);
        Classes classes = desk(book).classes;
        classes.refresh();
        if (!classes.areLike(t, u)) {
            return "-";
        }
        ink.setLength(0);
        classes.writePath(ink, t, u);
        return ink.toString();
    }

    public String why(int book, int t, int u) throws IndexOutOfBoundsException, IllegalArgumentException {
        needBareTwo(book, t, u);
        Desk asked = desk(book);
        asked.classes.refresh();
        return asked.classes.areLike(t, u) ? setText(asked.reasons(t, u)) : "-";
    }

    public boolean without(int book, int k, int t, int u)
            throws IndexOutOfBoundsException, IllegalArgumentException {
        needEquation(book, k);
        needBareTwo(book, t, u);
        Desk asked = desk(book);
        asked.trial.follow(asked.bareLive() & ~(1 << k));
        return asked.trial.areLike(t, u);
    }

    public String clashWhy(int book) throws IndexOutOfBoundsException {
        needBook(book);
        Desk asked = desk(book);
        asked.classes.refresh();
        int clash = asked.firstClash();
        if (clash == NONE) {
            return "-";
        }
        return setText(asked.reasons(asked.book.oneOf(clash), asked.book.otherOf(clash)));
    }

    public int common() {
        first.classes.refresh();
        second.classes.refresh();
        return countInBoth();
    }

    // ---- steps and laws

    public int steps(int book, int t, int u, int bound) throws IndexOutOfBoundsException, IllegalArgumentException {
        needTwo(book, t, u);
        needBound(bound, 4);
        walk.start(terms.codeOf(t));
        for (int n = 0; n <= bound; n++) {
            if (n > 0 && !walk.goOn(desk(book).book, n)) {
                return REFUSED;
            }
            if (walk.placeOf(terms.codeOf(u)) != NONE) {
                return n;
            }
        }
        return NONE;
    }

    public int meet(int book, int t, int u, int bound) throws IndexOutOfBoundsException, IllegalArgumentException {
        needTwo(book, t, u);
        needBound(bound, 3);
        Book by = desk(book).book;
        if (!walk.goAll(by, terms.codeOf(t), bound) || !otherWalk.goAll(by, terms.codeOf(u), bound)) {
            return REFUSED;
        }
        int best = NONE;
        for (int k = 0; k < walk.count; k++) {
            int place = otherWalk.placeOf(walk.codeAt(k));
            int sum = walk.stepsAt(k) + otherWalk.stepsAt(place);
            if (place != NONE && (best == NONE || sum < best)) {
                best = sum;
            }
        }
        return best;
    }

    public int reached(int book, int t, int bound) throws IndexOutOfBoundsException, IllegalArgumentException {
        needTwo(book, t, t);
        needBound(bound, 4);
        return walk.goAll(desk(book).book, terms.codeOf(t), bound) ? walk.count : REFUSED;
    }

    public String normal(int book, int t) throws IndexOutOfBoundsException {
        needTwo(book, t, t);
        Normals normals = desk(book).normals;
        normals.refresh();
        ink.setLength(0);
        normals.write(ink, t);
        return ink.toString();
    }

    // ---- proofs

    public int say(int proof, int left, int right, int rule, int i, int j)
            throws IndexOutOfBoundsException, IllegalArgumentException, IllegalStateException {
        needProof(proof);
        needTerm(left);
        needTerm(right);
        if (rule < 0 || rule > CLASSES || i < -1 || i > 63 || j < -1 || j > 63) {
            throw new IllegalArgumentException("no such rule or number");
        }
        if (lines.countOf(proof) >= Lines.MOST) {
            throw new IllegalStateException("the proof is full");
        }
        checks.isFresh = false;
        return lines.add(proof, left, right, rule, i, j);
    }

    public int unsay(int proof) throws IndexOutOfBoundsException, IllegalStateException {
        needProof(proof);
        int count = lines.countOf(proof);
        if (count <= 0) {
            throw new IllegalStateException("there is no line");
        }
        lines.cut(proof, count - 1);
        checks.isFresh = false;
        return count - 1;
    }

    public int find(int proof, int t, int u) throws IndexOutOfBoundsException, IllegalArgumentException {
        needProof(proof);
        needBareTwo(0, t, u);
        first.classes.refresh();
        if (!first.classes.areLike(t, u)) {
            return REFUSED;
        }
        int count = lines.countOf(proof);
        if (finder.sayPath(proof, t, u, 0) == REFUSED) {
            lines.cut(proof, count);
            return REFUSED;
        }
        checks.isFresh = false;
        return lines.countOf(proof);
    }

    public int shorten(int proof) throws IndexOutOfBoundsException {
        needProof(proof);
        checks.refresh();
        if (!checks.isAccepted(proof)) {
            return REFUSED;
        }
        int went = shortener.makeShort(proof);
        checks.isFresh = false;
        return went;
    }

    public int join(int proof, int other) throws IndexOutOfBoundsException, IllegalArgumentException {
        needProof(proof);
        needProof(other);
        if (proof == other) {
            throw new IllegalArgumentException("both are the same proof");
        }
        int own = lines.countOf(proof);
        int all = own + lines.countOf(other);
        int t = lines.leftOf(lines.lastOf(proof));
        int u = lines.rightOf(lines.lastOf(other));
        boolean isRow = lines.makeRow(lines.lastOf(proof), lines.lastOf(other));
        if (all + (isRow ? 1 : 0) > Lines.MOST) {
            return REFUSED;
        }
        lines.copyBehind(proof, other);
        if (isRow) {
            lines.add(proof, t, u, ROW, own - 1, all - 1);
        }
        checks.isFresh = false;
        return lines.countOf(proof);
    }

    public String line(int proof, int k) throws IndexOutOfBoundsException {
        needLine(proof, k);
        int slot = Lines.slotOf(proof, k);
        ink.setLength(0);
        terms.write(ink, lines.leftOf(slot));
        ink.append(" = ");
        terms.write(ink, lines.rightOf(slot));
        ink.append(": ").append(lines.ruleOf(slot));
        ink.append(' ').append(lines.firstOf(slot));
        ink.append(' ').append(lines.secondOf(slot));
        return ink.toString();
    }

    public int ofLine(int proof, int k, int what) throws IndexOutOfBoundsException, IllegalArgumentException {
        needLine(proof, k);
        needQuestion(what, 7);
        checks.refresh();
        return answerOfLine(Lines.slotOf(proof, k), what);
    }

    public String hangs(int proof, int k) throws IndexOutOfBoundsException {
        needLine(proof, k);
        checks.refresh();
        return setText(checks.hangsOf(Lines.slotOf(proof, k)));
    }

    public int firstWrong(int proof) throws IndexOutOfBoundsException {
        needProof(proof);
        checks.refresh();
        return checks.firstWrongOf(proof);
    }

    public int fails(int proof, int k) throws IndexOutOfBoundsException {
        needLine(proof, k);
        checks.refresh();
        first.tables.refresh();
        return checks.firstFailing(Lines.slotOf(proof, k));
    }

    // ---- lemmas

    public int keep(int name, int proof) throws IndexOutOfBoundsException {
        if (name < 0 || name >= NAMES) {
            throw new IndexOutOfBoundsException("no such name");
        }
        needProof(proof);
        checks.refresh();
        if (!checks.mayKeep(name, proof)) {
            return REFUSED;
        }
        int before = lines.isLemma(name) ? 1 : 0;
        lines.cut(Lines.sheetOf(name), 0);
        lines.copyBehind(Lines.sheetOf(name), proof);
        checks.isFresh = false;
        return before;
    }

    public int drop(int name) throws IndexOutOfBoundsException {
        needLemma(name);
        lines.cut(Lines.sheetOf(name), 0);
        checks.isFresh = false;
        return lines.countLemmas();
    }

    public int ofLemma(int name, int what) throws IndexOutOfBoundsException, IllegalArgumentException {
        needLemma(name);
        needQuestion(what, 5);
        checks.refresh();
        return answerOfLemma(name, what);
    }

    // ---- tables

    public int tableAt(int book, int k) throws IndexOutOfBoundsException {
        needBook(book);
        Tables tables = desk(book).tables;
        tables.refresh();
        int table = tables.tableOfPlace(k);
        if (table == NONE) {
            throw new IndexOutOfBoundsException("no such table");
        }
        return table;
    }

    public int valueIn(int table, int t, int values) throws IndexOutOfBoundsException, IllegalArgumentException {
        needTerm(t);
        needTable(table);
        if (values < 0 || values >= LANES) {
            throw new IllegalArgumentException("no such values");
        }
        long all = terms.valuesOf(t, table / LANES);
        return (int) (all >>> (table % LANES * 8 + values)) & 1;
    }

    public boolean equalIn(int table, int t, int u) throws IndexOutOfBoundsException, IllegalArgumentException {
        needTerm(t);
        needTerm(u);
        needTable(table);
        int lanes = Tables.equalLanes(terms.unequal(t, u, table / LANES));
        return (lanes >> (table % LANES) & 1) != 0;
    }

    // ---- the house

    public int house(int what) throws IllegalArgumentException {
        needQuestion(what, 6);
        checks.refresh();
        return answerOfHouse(what);
    }

    public int knock() {
        knocks++;
        return knocks;
    }

    public boolean isSound() {
        refreshDesks();
        checks.refresh();
        return isSoundNow();
    }

    public long digest() {
        refreshDesks();
        checks.refresh();
        long d = 6111;
        for (int what = 0; what <= 6; what++) {
            d = d * 31 + answerOfHouse(what);
        }
        for (int t = FIRST_TERMS; t < terms.count; t++) {
            ink.setLength(0);
            terms.write(ink, t);
            d = addInk(d);
        }
        d = addBook(d, first);
        d = addBook(d, second);
        d = d * 31 + countInBoth();
        for (int p = 0; p < PROOFS; p++) {
            d = addProof(d, p);
        }
        for (int name = 0; name < NAMES; name++) {
            if (lines.isLemma(name)) {
                d = addLemma(d, name);
            }
        }
        return d * 31 + (isSoundNow() ? 1 : 0);
    }

    private long addInk(long d) {
        long sum = d;
        for (int k = 0; k < ink.length(); k++) {
            sum = sum * 31 + ink.charAt(k);
        }
        return sum;
    }

    private long addBook(long d, Desk added) {
        long sum = d;
        for (int what = 0; what <= 8; what++) {
            sum = sum * 31 + added.answer(what);
        }
        for (int k = 0; k < added.book.count; k++) {
            ink.setLength(0);
            writeEquation(added.book, k);
            sum = addInk(sum);
        }
        for (int t = 0; t < terms.count; t++) {
            if (terms.isBare(t)) {
                sum = sum * 31 + added.classes.smallestLike(t);
            }
        }
        return sum;
    }

    private long addProof(long d, int proof) {
        long sum = d * 31 + checks.firstWrongOf(proof);
        for (int k = 0; k < lines.countOf(proof); k++) {
            int slot = Lines.slotOf(proof, k);
            for (int what = 0; what <= 7; what++) {
                sum = sum * 31 + answerOfLine(slot, what);
            }
            sum = sum * 31 + checks.firstFailing(slot);
        }
        return sum;
    }

    private long addLemma(long d, int name) {
        long sum = d * 31 + name;
        for (int what = 0; what <= 5; what++) {
            sum = sum * 31 + answerOfLemma(name, what);
        }
        return sum;
    }

    private int answerOfLine(int slot, int what) {
        switch (what) {
            case 0:
                return checks.faultOf(slot);
            case 1:
                return Integer.bitCount(checks.hangsOf(slot));
            case 2:
                return checks.isInductive(slot) ? 1 : 0;
            case 3:
                return lines.ruleOf(slot);
            case 4:
                return lines.leftOf(slot);
            case 5:
                return lines.rightOf(slot);
            case 6:
                return lines.firstOf(slot);
            default:
                return lines.secondOf(slot);
        }
    }

    private int answerOfLemma(int name, int what) {
        int sheet = Lines.sheetOf(name);
        switch (what) {
            case 0:
                return lines.countOf(sheet);
            case 1:
                return lines.leftOf(lines.lastOf(sheet));
            case 2:
                return lines.rightOf(lines.lastOf(sheet));
            case 3:
                return checks.doesStand(name) ? 1 : 0;
            case 4:
                return checks.isInductiveLemma(name) ? 1 : 0;
            default:
                return Integer.bitCount(checks.usedBy(name));
        }
    }

    private int answerOfHouse(int what) {
        switch (what) {
            case 0:
                return terms.count;
            case 1:
                return terms.countBare();
            case 2:
                return lines.countInProofs();
            case 3:
                return checks.countAccepted();
            case 4:
                return lines.countLemmas();
            case 5:
                return checks.countStanding();
            default:
                return knocks;
        }
    }

    private boolean isSoundNow() {
        for (int p = 0; p < PROOFS; p++) {
            if (!checks.isSoundProof(p)) {
                return false;
            }
        }
        return first.isSoundBook() && second.isSoundBook() && !checks.isLemmaInCircle();
    }

    private Desk desk(int book) {
        return book == 0 ? first : second;
    }

    private void forgetAll() {
        first.forget();
        second.forget();
        checks.isFresh = false;
    }

    private void forgetIfMore(int before) {
        if (terms.count != before) {
            forgetAll();
        }
    }

    private void refreshDesks() {
        first.classes.refresh();
        second.classes.refresh();
        first.tables.refresh();
        second.tables.refresh();
    }

    private int countInBoth() {
        int classes = 0;
        for (int t = 0; t < terms.count; t++) {
            if (terms.isBare(t) && isFirstInBoth(t)) {
                classes++;
            }
        }
        return classes;
    }

    private boolean isFirstInBoth(int t) {
        for (int u = 0; u < t; u++) {
            if (terms.isBare(u) && first.classes.areLike(u, t) && second.classes.areLike(u, t)) {
                return false;
            }
        }
        return true;
    }

    private void writeEquation(Book book, int k) {
        terms.write(ink, book.leftOf(k));
        ink.append(" = ");
        terms.write(ink, book.rightOf(k));
        if (!book.isLive(k)) {
            ink.append(" gone");
        }
    }

    private String setText(int set) {
        ink.setLength(0);
        for (int k = 0; k < 32; k++) {
            if ((set >>> k & 1) != 0) {
                if (ink.length() > 0) {
                    ink.append(' ');
                }
                ink.append(k);
            }
        }
        return ink.toString();
    }

    private void needTerm(int t) {
        if (!terms.holds(t)) {
            throw new IndexOutOfBoundsException("no such term");
        }
    }

    private void needBook(int book) {
        if (book < 0 || book >= BOOKS) {
            throw new IndexOutOfBoundsException("no such book");
        }
    }

    private void needTwo(int book, int t, int u) {
        needBook(book);
        needTerm(t);
        needTerm(u);
    }

    private void needBareTwo(int book, int t, int u) {
        needTwo(book, t, u);
        if (!terms.isBare(t) || !terms.isBare(u)) {
            throw new IllegalArgumentException("a variable stands in the term");
        }
    }

    private void needEquation(int book, int k) {
        needBook(book);
        if (!desk(book).book.holds(k)) {
            throw new IndexOutOfBoundsException("no such equation");
        }
    }

    private void needBound(int bound, int most) {
        if (bound < 0 || bound > most) {
            throw new IllegalArgumentException("no such bound");
        }
    }

    private void needQuestion(int what, int last) {
        if (what < 0 || what > last) {
            throw new IllegalArgumentException("no such question");
        }
    }

    private void needProof(int proof) {
        if (proof < 0 || proof >= PROOFS) {
            throw new IndexOutOfBoundsException("no such proof");
        }
    }

    private void needLine(int proof, int k) {
        needProof(proof);
        if (!lines.holds(proof, k)) {
            throw new IndexOutOfBoundsException("no such line");
        }
    }

    private void needLemma(int name) {
        if (!lines.isLemma(name)) {
            throw new IndexOutOfBoundsException("no such lemma");
        }
    }

    private void needTable(int table) {
        if (table < 0 || table >= TABLES) {
            throw new IllegalArgumentException("no such table");
        }
    }

    /** The TERMS that are kept, with what is told of each; parts have smaller numbers than what they stand in. */
    private static final class Terms {
        private static final char[] LETTERS = {'o', 'a', 'b', 'x', 'y', 'z', 's', 'p'};
        // A word has a bit for all values of the SIGNS without parts: bit x + 2y + 4z + 8o + 16a + 32b.
        private static final long[] LEAVES = {
            0xFF00FF00FF00FF00L, 0xFFFF0000FFFF0000L, 0xFFFFFFFF00000000L,
            0xAAAAAAAAAAAAAAAAL, 0xCCCCCCCCCCCCCCCCL, 0xF0F0F0F0F0F0F0F0L
        };

        private final int[] sign = new int[MOST_TERMS];
        private final int[] left = new int[MOST_TERMS];
        private final int[] right = new int[MOST_TERMS];
        private final int[] size = new int[MOST_TERMS];
        private final int[] variables = new int[MOST_TERMS];
        // The SIGNS in the order of the text, three bits each, the first one lowest.
        private final long[] code = new long[MOST_TERMS];
        // For each TERM a word for each choice of what s and p do (digits 3 to 8 of a TABLE).
        private final long[] values = new long[MOST_TERMS * WORDS];
        private int count;

        Terms() {
            for (int s = 0; s < FIRST_TERMS; s++) {
                lay(s, s, NONE, NONE);
            }
            count = FIRST_TERMS;
        }

        boolean holds(int t) {
            return t >= 0 && t < count && t < MOST_TERMS;
        }

        int signOf(int t) {
            return t >= 0 && t < MOST_TERMS ? sign[t] : NONE;
        }

        int leftOf(int t) {
            return t >= 0 && t < MOST_TERMS ? left[t] : NONE;
        }

        int rightOf(int t) {
            return t >= 0 && t < MOST_TERMS ? right[t] : NONE;
        }

        int sizeOf(int t) {
            return t >= 0 && t < MOST_TERMS ? size[t] : 0;
        }

        int variablesOf(int t) {
            return t >= 0 && t < MOST_TERMS ? variables[t] : 0;
        }

        long codeOf(int t) {
            return t >= 0 && t < MOST_TERMS ? code[t] : 0;
        }

        long valuesOf(int t, int word) {
            return t >= 0 && t < MOST_TERMS && word >= 0 && word < WORDS ? values[t * WORDS + word] : 0;
        }

        /** A bit for all values with which the two differ. */
        long unequal(int t, int u, int word) {
            return valuesOf(t, word) ^ valuesOf(u, word);
        }

        boolean isBare(int t) {
            return t < 0 || t >= MOST_TERMS || variables[t] == 0;
        }

        boolean hasVariable(int t, int variable) {
            return t >= 0 && t < MOST_TERMS && (variables[t] >> (variable - FIRST_VARIABLE) & 1) != 0;
        }

        int countBare() {
            int bare = 0;
            for (int t = 0; t < count; t++) {
                if (isBare(t)) {
                    bare++;
                }
            }
            return bare;
        }

        int lastBare() {
            int last = 0;
            for (int t = 0; t < count; t++) {
                if (isBare(t)) {
                    last = t;
                }
            }
            return last;
        }

        /** The number of the TERM with this SIGN and these parts (NONE where it has none), or NONE. */
        int numberOf(int s, int l, int r) {
            for (int t = 0; t < count; t++) {
                if (signOf(t) == s && leftOf(t) == l && rightOf(t) == r) {
                    return t;
                }
            }
            return NONE;
        }

        /** As numberOf, but the TERM is made, if it is not there; REFUSED, if it cannot be. */
        int make(int s, int l, int r) {
            int known = numberOf(s, l, r);
            if (known != NONE) {
                return known;
            }
            if (1 + sizeOf(l) + sizeOf(r) > MOST_SIZE || count >= MOST_TERMS) {
                return REFUSED;
            }
            lay(count, s, l, r);
            count++;
            return count - 1;
        }

        /** What comes of PUT, made with all its parts; REFUSED, with nothing made, if it cannot be. */
        int makePut(int t, int variable, int by) {
            int before = count;
            int made = makeParts(t, variable, by, 0);
            if (made == REFUSED) {
                count = before;
            }
            return made;
        }

        private int makeParts(int t, int variable, int by, int depth) {
            if (depth > MOST_SIZE) {
                return REFUSED;
            }
            if (!hasVariable(t, variable)) {
                return t;
            }
            if (signOf(t) == variable) {
                return by;
            }
            int l = makeParts(leftOf(t), variable, by, depth + 1);
            if (l == REFUSED || signOf(t) != PAIR) {
                return l == REFUSED ? REFUSED : make(SUCCESSOR, l, NONE);
            }
            int r = makeParts(rightOf(t), variable, by, depth + 1);
            return r == REFUSED ? REFUSED : make(PAIR, l, r);
        }

        /**
         * Whether one TERM is another one with by PUT for the variable; with NONE for by it is so only, if the
         * variable does not stand there.
         */
        private boolean isPut(int one, int t, int variable, int by, int depth) {
            if (depth > MOST_SIZE) {
                return false;
            }
            if (!hasVariable(t, variable)) {
                return one == t;
            }
            if (signOf(t) == variable) {
                return one == by;
            }
            return signOf(one) == signOf(t)
                    && isPut(leftOf(one), leftOf(t), variable, by, depth + 1)
                    && (signOf(t) != PAIR || isPut(rightOf(one), rightOf(t), variable, by, depth + 1));
        }

        void write(StringBuilder ink, int t) {
            writePart(ink, t, 0);
        }

        private void writePart(StringBuilder ink, int t, int depth) {
            if (depth > MOST_SIZE) {
                return;
            }
            ink.append(letterOf(t));
            if (leftOf(t) == NONE) {
                return;
            }
            ink.append('(');
            writePart(ink, leftOf(t), depth + 1);
            if (rightOf(t) != NONE) {
                ink.append(',');
                writePart(ink, rightOf(t), depth + 1);
            }
            ink.append(')');
        }

        char letterOf(int t) {
            int s = signOf(t);
            return s >= 0 && s < LETTERS.length ? LETTERS[s] : ' ';
        }

        private void lay(int t, int s, int l, int r) {
            if (t < 0 || t >= MOST_TERMS) {
                return;
            }
            sign[t] = s;
            left[t] = l;
            right[t] = r;
            size[t] = 1 + sizeOf(l) + sizeOf(r);
            boolean isVariable = s >= FIRST_VARIABLE && s <= LAST_VARIABLE;
            variables[t] = isVariable ? 1 << (s - FIRST_VARIABLE) : variablesOf(l) | variablesOf(r);
            code[t] = s | codeOf(l) << 3 | codeOf(r) << (3 + 3 * sizeOf(l));
            for (int word = 0; word < WORDS; word++) {
                values[t * WORDS + word] = valuesFrom(word, s, l, r);
            }
        }

        private long valuesFrom(int word, int s, int l, int r) {
            if (s == SUCCESSOR) {
                long of = valuesOf(l, word);
                return ((word & 1) != 0 ? ~of : 0) | ((word & 2) != 0 ? of : 0);
            }
            if (s == PAIR) {
                return pairValues(word, valuesOf(l, word), valuesOf(r, word));
            }
            return s >= 0 && s < LEAVES.length ? LEAVES[s] : 0;
        }

        /** The values of p of two, by what p does in this word. */
        static long pairValues(int word, long l, long r) {
            long value = (word & 4) != 0 ? ~l & ~r : 0;
            value |= (word & 8) != 0 ? ~l & r : 0;
            value |= (word & 16) != 0 ? l & ~r : 0;
            return value | ((word & 32) != 0 ? l & r : 0);
        }
    }

    /** What is told in one BOOK, and what its open LEVELS noted. */
    private static final class Book {
        private static final int MOST_EQUATIONS = 14;
        private static final int MOST_UNLIKES = 6;
        private static final int MOST_LEVELS = 5;

        private final int[] left = new int[MOST_EQUATIONS];
        private final int[] right = new int[MOST_EQUATIONS];
        private int count;
        private int gone;
        private final int[] one = new int[MOST_UNLIKES];
        private final int[] other = new int[MOST_UNLIKES];
        private int unlikes;
        private int laws;
        // What is told after a LEVEL stands behind what it noted: so to note the numbers is enough.
        private final int[] notedCount = new int[MOST_LEVELS];
        private final int[] notedGone = new int[MOST_LEVELS];
        private final int[] notedUnlikes = new int[MOST_LEVELS];
        private final int[] notedLaws = new int[MOST_LEVELS];
        private int open;

        boolean holds(int k) {
            return k >= 0 && k < count && k < MOST_EQUATIONS;
        }

        boolean isLive(int k) {
            return k >= 0 && k < count && (gone >> k & 1) == 0;
        }

        int leftOf(int k) {
            return k >= 0 && k < MOST_EQUATIONS ? left[k] : NONE;
        }

        int rightOf(int k) {
            return k >= 0 && k < MOST_EQUATIONS ? right[k] : NONE;
        }

        int oneOf(int k) {
            return k >= 0 && k < MOST_UNLIKES ? one[k] : NONE;
        }

        int otherOf(int k) {
            return k >= 0 && k < MOST_UNLIKES ? other[k] : NONE;
        }

        int countLive() {
            return count - Integer.bitCount(gone);
        }

        int add(int l, int r) {
            if (count < 0 || count >= MOST_EQUATIONS) {
                return REFUSED;
            }
            left[count] = l;
            right[count] = r;
            count++;
            return count - 1;
        }

        int addUnlike(int t, int u) {
            if (unlikes < 0 || unlikes >= MOST_UNLIKES) {
                return REFUSED;
            }
            one[unlikes] = t;
            other[unlikes] = u;
            unlikes++;
            return unlikes - 1;
        }

        void takeAway(int k) {
            if (holds(k)) {
                gone |= 1 << k;
            }
        }

        void openLevel() {
            if (open < 0 || open >= MOST_LEVELS) {
                return;
            }
            notedCount[open] = count;
            notedGone[open] = gone;
            notedUnlikes[open] = unlikes;
            notedLaws[open] = laws;
            open++;
        }

        void goBack() {
            if (open <= 0 || open > MOST_LEVELS) {
                return;
            }
            open--;
            count = notedCount[open];
            gone = notedGone[open];
            unlikes = notedUnlikes[open];
            laws = notedLaws[open];
        }
    }

    /** One BOOK with what follows from it. */
    private static final class Desk {
        private final Terms terms;
        private final Book book;
        private final Classes classes;
        // What follows from some of the EQUATIONS alone, for WHY.
        private final Classes trial;
        private final Tables tables;
        private final Normals normals;

        Desk(Terms terms) {
            this.terms = terms;
            book = new Book();
            classes = new Classes(terms, book);
            trial = new Classes(terms, book);
            tables = new Tables(terms, book);
            normals = new Normals(terms, book);
        }

        void forget() {
            classes.isFresh = false;
            tables.isFresh = false;
            normals.isFresh = false;
        }

        /** The set of the BARE EQUATIONS that are not GONE. */
        int bareLive() {
            int set = 0;
            for (int k = 0; k < book.count; k++) {
                if (book.isLive(k) && terms.isBare(book.leftOf(k)) && terms.isBare(book.rightOf(k))) {
                    set |= 1 << k;
                }
            }
            return set;
        }

        /** The set WHY of two that are LIKE. */
        int reasons(int t, int u) {
            if (t == u) {
                return 0;
            }
            int set = bareLive();
            for (int k = book.count - 1; k >= 0; k--) {
                int less = set & ~(1 << k);
                if (less != set) {
                    trial.follow(less);
                    set = trial.areLike(t, u) ? less : set;
                }
            }
            return set;
        }

        int answer(int what) {
            switch (what) {
                case 0:
                    return book.count;
                case 1:
                    return book.countLive();
                case 2:
                    return Integer.bitCount(bareLive());
                case 3:
                    return book.unlikes;
                case 4:
                    return book.open;
                case 5:
                    return book.laws;
                case 6:
                    return classes.countClasses();
                case 7:
                    return tables.countTables();
                default:
                    return firstClash();
            }
        }

        int firstClash() {
            for (int k = 0; k < book.unlikes; k++) {
                if (classes.areLike(book.oneOf(k), book.otherOf(k))) {
                    return k;
                }
            }
            return NONE;
        }

        /** Whether classes and WHY of the last BARE TERM are as they must be. */
        boolean isSoundBook() {
            int t = terms.lastBare();
            int u = classes.smallestLike(t);
            for (int word = 0; word < WORDS; word++) {
                if ((tables.lanesAt(word) & ~Tables.equalLanes(terms.unequal(t, u, word))) != 0) {
                    return false;
                }
            }
            return isLeast(reasons(t, u), t, u);
        }

        private boolean isLeast(int set, int t, int u) {
            trial.follow(set);
            boolean isSo = trial.areLike(t, u);
            for (int k = 0; k < book.count && isSo; k++) {
                int less = set & ~(1 << k);
                if (less != set) {
                    trial.follow(less);
                    isSo = !trial.areLike(t, u);
                }
            }
            return isSo;
        }
    }

    /** What follows from BARE EQUATIONS, round by round. */
    private static final class Classes {
        private final Terms terms;
        private final Book book;
        // A row for each round: for each TERM the smallest one that is LIKE it in that round.
        private final int[] smallest = new int[MOST_TERMS * MOST_TERMS];
        private final int[] key = new int[MOST_TERMS];
        private final int[] distance = new int[MOST_TERMS];
        private final int[] shown = new int[MOST_TERMS];
        private int rounds;
        private boolean isFresh;

        Classes(Terms terms, Book book) {
            this.terms = terms;
            this.book = book;
        }

        void refresh() {
            if (isFresh) {
                return;
            }
            int all = 0;
            for (int k = 0; k < book.count; k++) {
                if (book.isLive(k)) {
                    all |= 1 << k;
                }
            }
            follow(all);
            isFresh = true;
        }

        /** Finds what follows from those EQUATIONS of the set that are BARE. */
        void follow(int equations) {
            for (int t = 0; t < MOST_TERMS; t++) {
                smallest[t] = t;
            }
            for (int k = 0; k < book.count; k++) {
                int l = book.leftOf(k);
                int r = book.rightOf(k);
                if ((equations >> k & 1) != 0 && terms.isBare(l) && terms.isBare(r)) {
                    unite(0, l, r);
                }
            }
            rounds = 1;
            while (rounds < MOST_TERMS && goesOn(rounds)) {
                rounds++;
            }
        }

        boolean areLike(int t, int u) {
            return smallestIn(rounds - 1, t) == smallestIn(rounds - 1, u);
        }

        int smallestLike(int t) {
            return smallestIn(rounds - 1, t);
        }

        int roundOf(int t, int u) {
            for (int round = 0; round < rounds; round++) {
                if (smallestIn(round, t) == smallestIn(round, u)) {
                    return round;
                }
            }
            return NONE;
        }

        int countClasses() {
            int classes = 0;
            for (int t = 0; t < terms.count; t++) {
                if (terms.isBare(t) && smallestLike(t) == t) {
                    classes++;
                }
            }
            return classes;
        }

        /** The first EQUATION that is not GONE with these sides, either way, or NONE. */
        int equationOf(int t, int u) {
            for (int k = 0; k < book.count; k++) {
                boolean isAsTold = book.leftOf(k) == t && book.rightOf(k) == u;
                boolean isTurned = book.leftOf(k) == u && book.rightOf(k) == t;
                if ((isAsTold || isTurned) && book.isLive(k)) {
                    return k;
                }
            }
            return NONE;
        }

        /** Lays the PATH of two that are LIKE into a row, from a place on; answers how many TERMS it has. */
        int layPath(int t, int u, int[] row, int from) {
            int round = roundOf(t, u);
            measure(round, u);
            int at = t;
            for (int n = 0; n < MOST_TERMS && from >= 0 && from + n < row.length; n++) {
                row[from + n] = at;
                if (at == u) {
                    return n + 1;
                }
                at = nextTo(round, at);
            }
            return 0;
        }

        void writePath(StringBuilder ink, int t, int u) {
            int length = layPath(t, u, shown, 0);
            for (int n = 0; n < length && n < MOST_TERMS; n++) {
                if (n > 0) {
                    ink.append(' ');
                }
                ink.append(shown[n]);
            }
        }

        /** Finds for each TERM how many neighbours on a shortest row lead to u; NONE, if none do. */
        private void measure(int round, int u) {
            for (int t = 0; t < MOST_TERMS; t++) {
                distance[t] = t == u ? 0 : NONE;
            }
            boolean isMore = true;
            for (int d = 0; d < MOST_TERMS && isMore; d++) {
                isMore = false;
                for (int v = 0; v < terms.count; v++) {
                    if (distanceOf(v) == d && measureNeighbours(round, v)) {
                        isMore = true;
                    }
                }
            }
        }

        /** Whether there were neighbours of v that nothing had led to. */
        private boolean measureNeighbours(int round, int v) {
            boolean isMore = false;
            for (int w = 0; w < terms.count && w < MOST_TERMS; w++) {
                if (distance[w] == NONE && areNeighbours(round, v, w)) {
                    distance[w] = distanceOf(v) + 1;
                    isMore = true;
                }
            }
            return isMore;
        }

        private int distanceOf(int t) {
            return t >= 0 && t < MOST_TERMS ? distance[t] : NONE;
        }

        private int nextTo(int round, int v) {
            int nearer = distanceOf(v) - 1;
            for (int w = 0; w < terms.count; w++) {
                if (nearer >= 0 && distanceOf(w) == nearer && areNeighbours(round, v, w)) {
                    return w;
                }
            }
            return NONE;
        }

        private boolean areNeighbours(int round, int v, int w) {
            if (smallestIn(round, v) != smallestIn(round, w)) {
                return false;
            }
            boolean havePartsLike = round > 0 && keyIn(round - 1, v) != NONE
                    && keyIn(round - 1, v) == keyIn(round - 1, w);
            return havePartsLike || equationOf(v, w) != NONE;
        }

        /** BARE TERMS have the same key, if they have the same SIGN with parts that are LIKE; NONE without parts. */
        private int keyIn(int round, int t) {
            if (!terms.isBare(t) || terms.leftOf(t) == NONE) {
                return NONE;
            }
            // With s the right part is NONE, which is no TERM: so the key tells s from p.
            int l = smallestIn(round, terms.leftOf(t));
            int r = smallestIn(round, terms.rightOf(t));
            return l * (MOST_TERMS + 1) + r + 1;
        }

        /** Fills the row of a round; whether it has more than that of the round ahead. */
        private boolean goesOn(int round) {
            if (round < 1 || round >= MOST_TERMS) {
                return false;
            }
            System.arraycopy(smallest, (round - 1) * MOST_TERMS, smallest, round * MOST_TERMS, MOST_TERMS);
            boolean isMore = false;
            for (int t = FIRST_TERMS; t < terms.count && t < MOST_TERMS; t++) {
                key[t] = keyIn(round - 1, t);
                // All others with the same key are LIKE the first one by now.
                int first = firstWithKeyOf(t);
                if (first != NONE && unite(round, t, first)) {
                    isMore = true;
                }
            }
            return isMore;
        }

        /** The first TERM ahead of t with the same key, or NONE. */
        private int firstWithKeyOf(int t) {
            for (int u = FIRST_TERMS; u < t && t < MOST_TERMS && key[t] != NONE; u++) {
                if (key[u] == key[t]) {
                    return u;
                }
            }
            return NONE;
        }

        /** Whether the two were not LIKE in the round; then they are, with all that is LIKE them. */
        private boolean unite(int round, int t, int u) {
            int one = smallestIn(round, t);
            int other = smallestIn(round, u);
            if (one == other || round < 0 || round >= MOST_TERMS) {
                return false;
            }
            int more = Math.max(one, other);
            for (int place = round * MOST_TERMS; place < (round + 1) * MOST_TERMS; place++) {
                if (smallest[place] == more) {
                    smallest[place] = Math.min(one, other);
                }
            }
            return true;
        }

        private int smallestIn(int round, int t) {
            boolean isThere = round >= 0 && round < MOST_TERMS && t >= 0 && t < MOST_TERMS;
            return isThere ? smallest[round * MOST_TERMS + t] : NONE;
        }
    }

    /** The TABLES of one BOOK. */
    private static final class Tables {
        private final Terms terms;
        private final Book book;
        // A word has all TABLES with the same digits 3 to 8; its lanes are those with other digits 0 to 2.
        private final int[] lanes = new int[WORDS];
        private boolean isFresh;

        Tables(Terms terms, Book book) {
            this.terms = terms;
            this.book = book;
        }

        void refresh() {
            if (isFresh) {
                return;
            }
            for (int word = 0; word < lanes.length; word++) {
                lanes[word] = doLawsHold(word) ? equalLanes(unequalSides(word)) : 0;
            }
            isFresh = true;
        }

        int lanesAt(int word) {
            return word >= 0 && word < lanes.length ? lanes[word] : 0;
        }

        int countTables() {
            int tables = 0;
            for (int word = 0; word < WORDS; word++) {
                tables += Integer.bitCount(lanesAt(word));
            }
            return tables;
        }

        /** The TABLE of the BOOK at a place by rising numbers, or NONE. */
        int tableOfPlace(int place) {
            int ahead = 0;
            for (int table = 0; table < TABLES; table++) {
                if ((lanesAt(table / LANES) >> (table % LANES) & 1) != 0) {
                    if (ahead == place) {
                        return table;
                    }
                    ahead++;
                }
            }
            return NONE;
        }

        /** The lanes of a word in which no value differs. */
        static int equalLanes(long unequal) {
            if (unequal == 0) {
                return 0xFF;
            }
            int set = 0;
            for (int lane = 0; lane < LANES; lane++) {
                if ((unequal >>> (lane * 8) & 0xFF) == 0) {
                    set |= 1 << lane;
                }
            }
            return set;
        }

        /** The lanes of a word in which s of o is not o. */
        static int builtLanes(int word) {
            int withO0 = (word & 1) != 0 ? 0x55 : 0;
            int withO1 = (word & 2) == 0 ? 0xAA : 0;
            return withO0 | withO1;
        }

        private long unequalSides(int word) {
            long unequal = 0;
            for (int k = 0; k < book.count; k++) {
                if (book.isLive(k)) {
                    unequal |= terms.unequal(book.leftOf(k), book.rightOf(k), word);
                }
            }
            return unequal;
        }

        private boolean doLawsHold(int word) {
            if ((book.laws & ORDER) != 0 && (word >> 3 & 1) != (word >> 4 & 1)) {
                return false;
            }
            if ((book.laws & GROUPS) == 0) {
                return true;
            }
            long x = terms.valuesOf(FIRST_VARIABLE, word);
            long y = terms.valuesOf(FIRST_VARIABLE + 1, word);
            long z = terms.valuesOf(LAST_VARIABLE, word);
            return Terms.pairValues(word, Terms.pairValues(word, x, y), z)
                    == Terms.pairValues(word, x, Terms.pairValues(word, y, z));
        }
    }

    /** NORMAL texts of all TERMS that are kept, by the LAWS of one BOOK. */
    private static final class Normals {
        // No NORMAL text is longer than that of 14 s and a sign: 43.
        private static final int WIDTH = 48;
        private static final int MOST_PIECES = 8;

        private final Terms terms;
        private final Book book;
        private final char[] ink = new char[MOST_TERMS * WIDTH];
        private final int[] length = new int[MOST_TERMS];
        // What stands between the brackets of a NORMAL text, in its order: these TERMS' NORMAL texts.
        private final int[] piece = new int[MOST_TERMS * MOST_PIECES];
        private final int[] pieces = new int[MOST_TERMS];
        private boolean isFresh;

        Normals(Terms terms, Book book) {
            this.terms = terms;
            this.book = book;
        }

        void refresh() {
            for (int t = 0; t < terms.count && !isFresh; t++) {
                gather(t);
                lay(t);
            }
            isFresh = true;
        }

        boolean areSame(int t, int u) {
            return order(t, u) == 0;
        }

        void write(StringBuilder out, int t) {
            for (int k = 0; k < lengthOf(t); k++) {
                out.append(signAt(t, k));
            }
        }

        private int lengthOf(int t) {
            return t >= 0 && t < MOST_TERMS ? length[t] : 0;
        }

        private char signAt(int t, int k) {
            return t >= 0 && t < MOST_TERMS && k >= 0 && k < WIDTH ? ink[t * WIDTH + k] : ' ';
        }

        private int piecesOf(int t) {
            return t >= 0 && t < MOST_TERMS ? pieces[t] : 0;
        }

        private int pieceAt(int t, int k) {
            boolean isThere = t >= 0 && t < MOST_TERMS && k >= 0 && k < MOST_PIECES;
            return isThere ? piece[t * MOST_PIECES + k] : NONE;
        }

        private void gather(int t) {
            if (t < 0 || t >= MOST_TERMS) {
                return;
            }
            pieces[t] = 0;
            boolean isPair = terms.signOf(t) == PAIR;
            gatherPart(t, terms.leftOf(t), isPair);
            gatherPart(t, terms.rightOf(t), isPair);
        }

        private void gatherPart(int t, int part, boolean isPair) {
            if (part == NONE) {
                return;
            }
            if (!isPair || (book.laws & GROUPS) == 0 || terms.signOf(part) != PAIR) {
                addPiece(t, part, isPair);
                return;
            }
            for (int k = 0; k < piecesOf(part); k++) {
                addPiece(t, pieceAt(part, k), true);
            }
        }

        private void addPiece(int t, int part, boolean isPair) {
            if (t < 0 || t >= MOST_TERMS || pieces[t] < 0 || pieces[t] >= MOST_PIECES) {
                return;
            }
            int base = t * MOST_PIECES;
            int k = pieces[t];
            boolean isSorted = isPair && (book.laws & ORDER) != 0;
            while (k > 0 && isSorted && order(piece[base + k - 1], part) > 0) {
                piece[base + k] = piece[base + k - 1];
                k--;
            }
            piece[base + k] = part;
            pieces[t]++;
        }

        /** Below, above or just 0, as the NORMAL text of t comes ahead of that of u, behind it, or is the same. */
        private int order(int t, int u) {
            int shorter = Math.min(lengthOf(t), lengthOf(u));
            for (int k = 0; k < shorter; k++) {
                if (signAt(t, k) != signAt(u, k)) {
                    return signAt(t, k) - signAt(u, k);
                }
            }
            return lengthOf(t) - lengthOf(u);
        }

        private void lay(int t) {
            if (t < 0 || t >= MOST_TERMS) {
                return;
            }
            length[t] = 0;
            add(t, terms.letterOf(t));
            for (int k = 0; k < pieces[t]; k++) {
                add(t, k == 0 ? '(' : ',');
                for (int n = 0; n < lengthOf(pieceAt(t, k)); n++) {
                    add(t, signAt(pieceAt(t, k), n));
                }
            }
            if (pieces[t] > 0) {
                add(t, ')');
            }
        }

        private void add(int t, char sign) {
            if (t >= 0 && t < MOST_TERMS && length[t] >= 0 && length[t] < WIDTH) {
                ink[t * WIDTH + length[t]] = sign;
                length[t]++;
            }
        }
    }

    /** What is come to by STEPS from one TERM. */
    private static final class Walk {
        private static final int MOST = 60;
        private static final int VARIABLES = 3;

        private final Terms terms;
        // One place more than may be come to: so it is seen when there are more.
        private final long[] come = new long[MOST + 1];
        private final int[] stepsOf = new int[MOST + 1];
        private int count;
        // The TERM from which STEPS go now: its SIGNS, and where the part that starts at each one ends.
        private long code;
        private int size;
        private final int[] sign = new int[MOST_SIZE];
        private final int[] end = new int[MOST_SIZE];
        // What is PUT for each variable; a size of 0 tells that nothing is yet.
        private final long[] putCode = new long[VARIABLES];
        private final int[] putSize = new int[VARIABLES];

        Walk(Terms terms) {
            this.terms = terms;
        }

        void start(long from) {
            come[0] = from;
            stepsOf[0] = 0;
            count = 1;
        }

        /** Goes from one TERM as far as the bound; false, if more than 60 are come to. */
        boolean goAll(Book book, long from, int bound) {
            start(from);
            for (int n = 1; n <= bound; n++) {
                if (!goOn(book, n)) {
                    return false;
                }
            }
            return true;
        }

        /** Adds all that come by just n STEPS; false, if these are more than 60 with those ahead. */
        boolean goOn(Book book, int n) {
            int before = count;
            for (int k = 0; k < before && count <= MOST; k++) {
                if (stepsAt(k) == n - 1) {
                    open(codeAt(k));
                    stepByAll(book, n);
                }
            }
            return count <= MOST;
        }

        int placeOf(long wanted) {
            for (int k = 0; k < count && k < come.length; k++) {
                if (come[k] == wanted) {
                    return k;
                }
            }
            return NONE;
        }

        long codeAt(int k) {
            return k >= 0 && k < come.length ? come[k] : 0;
        }

        int stepsAt(int k) {
            return k >= 0 && k < stepsOf.length ? stepsOf[k] : NONE;
        }

        private void stepByAll(Book book, int n) {
            for (int k = 0; k < book.count && count <= MOST; k++) {
                if (book.isLive(k)) {
                    stepBy(book.leftOf(k), book.rightOf(k), n);
                    stepBy(book.rightOf(k), book.leftOf(k), n);
                }
            }
        }

        private void stepBy(int from, int to, int n) {
            if ((terms.variablesOf(to) & ~terms.variablesOf(from)) != 0) {
                return;
            }
            for (int place = 0; place < size; place++) {
                if (isMatch(from, place)) {
                    build(to, place, n);
                }
            }
        }

        private void open(long opened) {
            code = opened;
            size = 0;
            int need = 1;
            for (int k = 0; k < MOST_SIZE && need > 0; k++) {
                sign[k] = (int) (opened >>> (3 * k)) & 7;
                need += sign[k] == PAIR ? 1 : sign[k] == SUCCESSOR ? 0 : -1;
                size++;
            }
            for (int k = size - 1; k >= 0 && k < MOST_SIZE; k--) {
                end[k] = k + 1;
                if (sign[k] >= SUCCESSOR) {
                    end[k] = sign[k] == PAIR ? endAt(endAt(k + 1)) : endAt(k + 1);
                }
            }
        }

        private int signAt(int place) {
            return place >= 0 && place < size && place < MOST_SIZE ? sign[place] : NONE;
        }

        private int endAt(int place) {
            return place >= 0 && place < size && place < MOST_SIZE ? end[place] : size;
        }

        /** Whether the part at a place is the TERM with something PUT for its variables; notes what. */
        private boolean isMatch(int from, int place) {
            for (int v = 0; v < VARIABLES; v++) {
                putSize[v] = 0;
            }
            long signs = terms.codeOf(from);
            int at = place;
            for (int k = 0; k < terms.sizeOf(from); k++) {
                int wanted = (int) (signs >>> (3 * k)) & 7;
                boolean isVariable = wanted >= FIRST_VARIABLE && wanted <= LAST_VARIABLE;
                if (isVariable ? !isPutAs(wanted - FIRST_VARIABLE, at) : signAt(at) != wanted) {
                    return false;
                }
                at = isVariable ? endAt(at) : at + 1;
            }
            return true;
        }

        /** Whether the part at a place is what is PUT for the variable; it becomes that, if nothing is yet. */
        private boolean isPutAs(int v, int at) {
            if (v < 0 || v >= VARIABLES) {
                return false;
            }
            int partSize = endAt(at) - at;
            long part = code >>> (3 * at) & bitsOf(partSize);
            if (putSize[v] == 0) {
                putSize[v] = partSize;
                putCode[v] = part;
            }
            return putSize[v] == partSize && putCode[v] == part;
        }

        private static long bitsOf(int size) {
            return (1L << (3 * size)) - 1;
        }

        /** Adds the TERM with the part at a place as the other side tells, if it is not too large. */
        private void build(int to, int place, int n) {
            long built = code & bitsOf(place);
            int length = place;
            long signs = terms.codeOf(to);
            for (int k = 0; k < terms.sizeOf(to) && length <= MOST_SIZE; k++) {
                int s = (int) (signs >>> (3 * k)) & 7;
                int v = s - FIRST_VARIABLE;
                boolean isVariable = v >= 0 && v < VARIABLES;
                built |= (isVariable ? putCode[v] : s) << (3 * length);
                length += isVariable ? putSize[v] : 1;
            }
            int behind = endAt(place);
            if (length + size - behind <= MOST_SIZE) {
                add(built | code >>> (3 * behind) << (3 * length), n);
            }
        }

        private void add(long built, int n) {
            if (placeOf(built) == NONE && count >= 0 && count < come.length) {
                come[count] = built;
                stepsOf[count] = n;
                count++;
            }
        }
    }

    /**
     * The lines of the PROOFS and, on sheets of their own behind these, of the lemmas. A slot is the place of a
     * line among those of all sheets.
     */
    private static final class Lines {
        private static final int MOST = 24;
        private static final int SHEETS = PROOFS + NAMES;
        private static final int SLOTS = SHEETS * MOST;

        private final Terms terms;
        private final int[] left = new int[SLOTS];
        private final int[] right = new int[SLOTS];
        private final int[] rule = new int[SLOTS];
        private final int[] first = new int[SLOTS];
        private final int[] second = new int[SLOTS];
        private final int[] count = new int[SHEETS];

        Lines(Terms terms) {
            this.terms = terms;
        }

        static int sheetOf(int name) {
            return PROOFS + name;
        }

        static int slotOf(int sheet, int k) {
            return sheet * MOST + k;
        }

        /** The slot of the first line of the sheet on which a slot is. */
        static int baseOf(int slot) {
            return slot - slot % MOST;
        }

        int countOf(int sheet) {
            return sheet >= 0 && sheet < SHEETS ? count[sheet] : 0;
        }

        /** The slot of the last line of a sheet, or NONE. */
        int lastOf(int sheet) {
            return countOf(sheet) > 0 ? slotOf(sheet, countOf(sheet) - 1) : NONE;
        }

        boolean holds(int sheet, int k) {
            return k >= 0 && k < countOf(sheet);
        }

        boolean isLemma(int name) {
            return name >= 0 && name < NAMES && countOf(sheetOf(name)) > 0;
        }

        int countLemmas() {
            int lemmas = 0;
            for (int name = 0; name < NAMES; name++) {
                lemmas += isLemma(name) ? 1 : 0;
            }
            return lemmas;
        }

        int countInProofs() {
            int sum = 0;
            for (int p = 0; p < PROOFS; p++) {
                sum += countOf(p);
            }
            return sum;
        }

        int leftOf(int slot) {
            return slot >= 0 && slot < SLOTS ? left[slot] : NONE;
        }

        int rightOf(int slot) {
            return slot >= 0 && slot < SLOTS ? right[slot] : NONE;
        }

        int ruleOf(int slot) {
            return slot >= 0 && slot < SLOTS ? rule[slot] : NONE;
        }

        int firstOf(int slot) {
            return slot >= 0 && slot < SLOTS ? first[slot] : NONE;
        }

        int secondOf(int slot) {
            return slot >= 0 && slot < SLOTS ? second[slot] : NONE;
        }

        boolean isInduct(int slot) {
            return ruleOf(slot) >= FIRST_INDUCT && ruleOf(slot) <= LAST_INDUCT;
        }

        /** Whether a line names a line by its first number. */
        boolean namesFirst(int slot) {
            return ruleOf(slot) >= TURNED && ruleOf(slot) <= LAST_PUT || isInduct(slot);
        }

        boolean namesSecond(int slot) {
            if (ruleOf(slot) == WITHIN) {
                return terms.signOf(leftOf(slot)) == PAIR;
            }
            return ruleOf(slot) == ROW || isInduct(slot);
        }

        boolean haveSides(int slot, int l, int r) {
            return leftOf(slot) == l && rightOf(slot) == r;
        }

        boolean haveSameSides(int slot, int other) {
            return leftOf(slot) == leftOf(other) && rightOf(slot) == rightOf(other);
        }

        /** Whether both lines are there (not NONE), and the one ends with what the other one starts with. */
        boolean makeRow(int slot, int other) {
            return slot != NONE && other != NONE && rightOf(slot) == leftOf(other);
        }

        /** The names that the LEMMA lines of a sheet tell, as a set. */
        int lemmasNamed(int sheet) {
            int set = 0;
            for (int k = 0; k < countOf(sheet); k++) {
                int slot = slotOf(sheet, k);
                int name = firstOf(slot);
                if (ruleOf(slot) == LEMMA && name >= 0 && name < NAMES) {
                    set |= 1 << name;
                }
            }
            return set;
        }

        /** The number of the line that is added behind the others; REFUSED, if there are 24. */
        int add(int sheet, int l, int r, int byRule, int i, int j) {
            int k = countOf(sheet);
            int slot = slotOf(sheet, k);
            if (sheet < 0 || sheet >= SHEETS || k >= MOST || slot < 0 || slot >= SLOTS) {
                return REFUSED;
            }
            left[slot] = l;
            right[slot] = r;
            rule[slot] = byRule;
            first[slot] = i;
            second[slot] = j;
            count[sheet] = k + 1;
            return k;
        }

        /** Leaves only the first lines of a sheet, so many. */
        void cut(int sheet, int rest) {
            if (sheet >= 0 && sheet < SHEETS && rest >= 0 && rest < count[sheet]) {
                count[sheet] = rest;
            }
        }

        /** Adds the lines of another sheet; the lines that they name stand as much further behind. */
        void copyBehind(int sheet, int other) {
            int own = countOf(sheet);
            int all = countOf(other);
            for (int k = 0; k < all; k++) {
                int slot = slotOf(other, k);
                int i = firstOf(slot) + (namesFirst(slot) ? own : 0);
                int j = secondOf(slot) + (namesSecond(slot) ? own : 0);
                add(sheet, leftOf(slot), rightOf(slot), ruleOf(slot), i, j);
            }
        }

        /** Lets a line name other lines, where it names any. */
        void rename(int slot, int i, int j) {
            if (slot >= 0 && slot < SLOTS) {
                first[slot] = namesFirst(slot) ? i : first[slot];
                second[slot] = namesSecond(slot) ? j : second[slot];
            }
        }

        /** Lays a line at another slot, too. */
        void move(int slot, int to) {
            if (slot >= 0 && slot < SLOTS && to >= 0 && to < SLOTS) {
                left[to] = left[slot];
                right[to] = right[slot];
                rule[to] = rule[slot];
                first[to] = first[slot];
                second[to] = second[slot];
            }
        }
    }

    /** What is told of all lines: FAULT, on what they HANG, whether they USE induction; and which lemmas STAND. */
    private static final class Checks {
        private final Terms terms;
        private final Desk desk;
        private final Lines lines;
        private final int[] fault = new int[Lines.SLOTS];
        private final int[] hanging = new int[Lines.SLOTS];
        private final boolean[] inductive = new boolean[Lines.SLOTS];
        private final int[] wrong = new int[Lines.SHEETS];
        // Sets of names.
        private int standing;
        private int inductiveLemmas;
        private final int[] used = new int[NAMES];
        private boolean isFresh;

        Checks(Terms terms, Desk desk, Lines lines) {
            this.terms = terms;
            this.desk = desk;
            this.lines = lines;
        }

        /** Checks all lines; each lemma behind those that it names: no lemma USES itself, so the passes reach all. */
        void refresh() {
            if (isFresh) {
                return;
            }
            desk.classes.refresh();
            desk.normals.refresh();
            standing = 0;
            inductiveLemmas = 0;
            int known = 0;
            for (int pass = 0; pass < NAMES; pass++) {
                for (int name = 0; name < NAMES; name++) {
                    int named = lines.lemmasNamed(Lines.sheetOf(name));
                    if (!lines.isLemma(name)) {
                        known |= 1 << name;
                    } else if ((known >> name & 1) == 0 && (named & ~known) == 0) {
                        checkSheet(Lines.sheetOf(name));
                        noteLemma(name, named);
                        known |= 1 << name;
                    }
                }
            }
            for (int p = 0; p < PROOFS; p++) {
                checkSheet(p);
            }
            isFresh = true;
        }

        int faultOf(int slot) {
            return slot >= 0 && slot < Lines.SLOTS ? fault[slot] : NOT_THERE;
        }

        int hangsOf(int slot) {
            return slot >= 0 && slot < Lines.SLOTS ? hanging[slot] : 0;
        }

        boolean isInductive(int slot) {
            return slot >= 0 && slot < Lines.SLOTS && inductive[slot];
        }

        int firstWrongOf(int sheet) {
            return sheet >= 0 && sheet < Lines.SHEETS ? wrong[sheet] : NONE;
        }

        boolean isAccepted(int sheet) {
            return lines.countOf(sheet) > 0 && firstWrongOf(sheet) == NONE;
        }

        int countAccepted() {
            int accepted = 0;
            for (int p = 0; p < PROOFS; p++) {
                accepted += isAccepted(p) ? 1 : 0;
            }
            return accepted;
        }

        boolean doesStand(int name) {
            return name >= 0 && name < NAMES && (standing >> name & 1) != 0;
        }

        int countStanding() {
            return Integer.bitCount(standing);
        }

        boolean isInductiveLemma(int name) {
            return name >= 0 && name < NAMES && (inductiveLemmas >> name & 1) != 0;
        }

        /** The lemmas that are there and that a lemma USES, as a set of names. */
        int usedBy(int name) {
            return name >= 0 && name < NAMES && lines.isLemma(name) ? used[name] : 0;
        }

        boolean isLemmaInCircle() {
            for (int name = 0; name < NAMES; name++) {
                if ((usedBy(name) >> name & 1) != 0) {
                    return true;
                }
            }
            return false;
        }

        boolean mayKeep(int name, int proof) {
            if (!isAccepted(proof) || hangsOf(lines.lastOf(proof)) != 0) {
                return false;
            }
            int named = lines.lemmasNamed(proof);
            for (int n = 0; n < NAMES; n++) {
                boolean isCircle = n == name || (usedBy(n) >> name & 1) != 0;
                if ((named >> n & 1) != 0 && isCircle) {
                    return false;
                }
            }
            return true;
        }

        /** The first TABLE of the BOOK in which a line does not hold (BUILT, if it USES induction), or NONE. */
        int firstFailing(int slot) {
            for (int word = 0; word < WORDS; word++) {
                int failing = desk.tables.lanesAt(word);
                if (isInductive(slot)) {
                    failing &= Tables.builtLanes(word);
                }
                if (failing != 0) {
                    failing &= ~Tables.equalLanes(wrongValues(slot, word));
                }
                for (int lane = 0; lane < LANES && failing != 0; lane++) {
                    if ((failing >> lane & 1) != 0) {
                        return word * LANES + lane;
                    }
                }
            }
            return NONE;
        }

        /** Whether each line ahead of the first that is not RIGHT holds in all TABLES in which it must. */
        boolean isSoundProof(int proof) {
            int end = firstWrongOf(proof) == NONE ? lines.countOf(proof) : firstWrongOf(proof);
            for (int k = 0; k < end; k++) {
                if (firstFailing(Lines.slotOf(proof, k)) != NONE) {
                    return false;
                }
            }
            return true;
        }

        /** A bit for all values with which the ASSUMPTIONS of a line have equal sides, but the line has not. */
        private long wrongValues(int slot, int word) {
            long bad = terms.unequal(lines.leftOf(slot), lines.rightOf(slot), word);
            int base = Lines.baseOf(slot);
            int set = hangsOf(slot);
            for (int a = 0; a < Lines.MOST && bad != 0 && set >> a != 0; a++) {
                if ((set >> a & 1) != 0) {
                    bad &= ~terms.unequal(lines.leftOf(base + a), lines.rightOf(base + a), word);
                }
            }
            return bad;
        }

        /** Notes what is told of a lemma whose lines are checked. */
        private void noteLemma(int name, int named) {
            if (name < 0 || name >= NAMES) {
                return;
            }
            int sheet = Lines.sheetOf(name);
            standing |= isAccepted(sheet) ? 1 << name : 0;
            for (int k = 0; k < lines.countOf(sheet); k++) {
                inductiveLemmas |= isInductive(Lines.slotOf(sheet, k)) ? 1 << name : 0;
            }
            used[name] = 0;
            for (int n = 0; n < NAMES; n++) {
                if ((named >> n & 1) != 0 && lines.isLemma(n)) {
                    used[name] |= 1 << n | used[n];
                }
            }
        }

        private void checkSheet(int sheet) {
            if (sheet < 0 || sheet >= Lines.SHEETS) {
                return;
            }
            wrong[sheet] = NONE;
            for (int k = 0; k < lines.countOf(sheet); k++) {
                int slot = Lines.slotOf(sheet, k);
                if (slot >= 0 && slot < Lines.SLOTS) {
                    fault[slot] = findFault(slot);
                    hanging[slot] = findHangs(slot, k);
                    inductive[slot] = usesInduction(slot);
                    wrong[sheet] = wrong[sheet] == NONE && fault[slot] != RIGHT ? k : wrong[sheet];
                }
            }
        }

        /** The slot of the line that a line names by its first number, or NONE, if it names none that is ahead. */
        private int firstAhead(int slot) {
            int i = lines.firstOf(slot);
            int named = Lines.baseOf(slot) + i;
            return lines.namesFirst(slot) && i >= 0 && named < slot ? named : NONE;
        }

        private int secondAhead(int slot) {
            int j = lines.secondOf(slot);
            int named = Lines.baseOf(slot) + j;
            return lines.namesSecond(slot) && j >= 0 && named < slot ? named : NONE;
        }

        private boolean usesInduction(int slot) {
            if (lines.ruleOf(slot) == LEMMA) {
                return isInductiveLemma(lines.firstOf(slot));
            }
            return lines.isInduct(slot) || isInductive(firstAhead(slot)) || isInductive(secondAhead(slot));
        }

        /** On what a line HANGS, whose FAULT is known. */
        private int findHangs(int slot, int k) {
            if (lines.ruleOf(slot) == ASSUME) {
                return 1 << k;
            }
            int bySecond = hangsOf(secondAhead(slot));
            if (lines.isInduct(slot) && (faultOf(slot) == RIGHT || faultOf(slot) == VARIABLE_STANDS)) {
                bySecond &= ~(1 << assumptionOf(slot, bySecond));
            }
            return hangsOf(firstAhead(slot)) | bySecond;
        }

        private int findFault(int slot) {
            int i = firstAhead(slot);
            int j = secondAhead(slot);
            if (lines.namesFirst(slot) && i == NONE || lines.namesSecond(slot) && j == NONE) {
                return NOT_THERE;
            }
            int rule = lines.ruleOf(slot);
            if (rule == TOLD) {
                return findFaultOfTold(slot);
            }
            if (rule == LEMMA) {
                return findFaultOfLemma(slot);
            }
            if (rule >= FIRST_PUT && rule <= LAST_PUT) {
                return findFaultOfPut(slot, i);
            }
            if (lines.isInduct(slot)) {
                return findFaultOfInduct(slot, i, j);
            }
            return areSidesAsTold(slot, i, j) ? RIGHT : OTHER_SIDES;
        }

        private int findFaultOfTold(int slot) {
            int i = lines.firstOf(slot);
            if (!desk.book.holds(i)) {
                return NOT_THERE;
            }
            if (!desk.book.isLive(i)) {
                return NO_LONGER;
            }
            return lines.haveSides(slot, desk.book.leftOf(i), desk.book.rightOf(i)) ? RIGHT : OTHER_SIDES;
        }

        private int findFaultOfLemma(int slot) {
            int name = lines.firstOf(slot);
            if (!lines.isLemma(name)) {
                return NOT_THERE;
            }
            if (!doesStand(name)) {
                return NO_LONGER;
            }
            return lines.haveSameSides(slot, lines.lastOf(Lines.sheetOf(name))) ? RIGHT : OTHER_SIDES;
        }

        private int findFaultOfPut(int slot, int i) {
            int by = lines.secondOf(slot);
            int variable = lines.ruleOf(slot) - FIRST_PUT + FIRST_VARIABLE;
            if (!terms.holds(by)) {
                return NOT_THERE;
            }
            if (!isLinePut(slot, i, variable, by)) {
                return OTHER_SIDES;
            }
            return standsIn(hangsOf(i), Lines.baseOf(slot), variable) ? VARIABLE_STANDS : RIGHT;
        }

        private int findFaultOfInduct(int slot, int i, int j) {
            int variable = lines.ruleOf(slot) - FIRST_INDUCT + FIRST_VARIABLE;
            // If s of the variable is not kept, it stands on no side: NONE for it is as good.
            int next = terms.numberOf(SUCCESSOR, variable, NONE);
            if (!isLinePut(i, slot, variable, 0) || !isLinePut(j, slot, variable, next)) {
                return OTHER_SIDES;
            }
            int assumption = assumptionOf(slot, hangsOf(j));
            if (assumption == NONE) {
                return NO_ASSUMPTION;
            }
            int others = hangsOf(j) & ~(1 << assumption) | hangsOf(i);
            return standsIn(others, Lines.baseOf(slot), variable) ? VARIABLE_STANDS : RIGHT;
        }

        /** Whether one line has the sides of another one with a TERM PUT for the variable. */
        private boolean isLinePut(int one, int slot, int variable, int by) {
            return terms.isPut(lines.leftOf(one), lines.leftOf(slot), variable, by, 0)
                    && terms.isPut(lines.rightOf(one), lines.rightOf(slot), variable, by, 0);
        }

        /** The first ASSUMPTION of a set with the sides of a line, or NONE. */
        private int assumptionOf(int slot, int set) {
            int base = Lines.baseOf(slot);
            for (int a = 0; a < Lines.MOST; a++) {
                if ((set >> a & 1) != 0 && lines.haveSameSides(base + a, slot)) {
                    return a;
                }
            }
            return NONE;
        }

        private boolean standsIn(int assumptions, int base, int variable) {
            for (int a = 0; a < Lines.MOST; a++) {
                boolean isThere = terms.hasVariable(lines.leftOf(base + a), variable)
                        || terms.hasVariable(lines.rightOf(base + a), variable);
                if ((assumptions >> a & 1) != 0 && isThere) {
                    return true;
                }
            }
            return false;
        }

        /** Whether the sides are right by a RULE that looks at nothing but sides; i and j are slots here. */
        private boolean areSidesAsTold(int slot, int i, int j) {
            int t = lines.leftOf(slot);
            int u = lines.rightOf(slot);
            switch (lines.ruleOf(slot)) {
                case SAME:
                    return t == u;
                case TURNED:
                    return lines.haveSides(i, u, t);
                case ROW:
                    return lines.leftOf(i) == t && lines.rightOf(j) == u && lines.makeRow(i, j);
                case WITHIN:
                    return terms.leftOf(t) != NONE && terms.signOf(t) == terms.signOf(u)
                            && lines.haveSides(i, terms.leftOf(t), terms.leftOf(u))
                            && (j == NONE || lines.haveSides(j, terms.rightOf(t), terms.rightOf(u)));
                case LAWS:
                    return desk.normals.areSame(t, u);
                case CLASSES:
                    return terms.isBare(t) && terms.isBare(u) && desk.classes.areLike(t, u);
                default:
                    return lines.ruleOf(slot) == ASSUME;
            }
        }
    }

    /** Says lines FOUND by classes. */
    private static final class Finder {
        private final Terms terms;
        private final Desk desk;
        private final Lines lines;
        // A PATH for each depth.
        private final int[] path = new int[Lines.MOST * MOST_TERMS];

        Finder(Terms terms, Desk desk, Lines lines) {
            this.terms = terms;
            this.desk = desk;
            this.lines = lines;
        }

        /** The number of the last line said for two that are LIKE; REFUSED, if not all lines have a place. */
        private int sayPath(int proof, int t, int u, int depth) {
            // Each depth ends with a WITHIN line of its own: so beyond this one there were more than 24 lines.
            if (depth >= Lines.MOST) {
                return REFUSED;
            }
            if (t == u) {
                return lines.add(proof, t, u, SAME, 0, 0);
            }
            int from = depth * MOST_TERMS;
            int length = desk.classes.layPath(t, u, path, from);
            int whole = REFUSED;
            for (int n = 1; n < length; n++) {
                int w = pathAt(from + n);
                int part = sayNeighbours(proof, pathAt(from + n - 1), w, depth);
                if (part != REFUSED && n > 1) {
                    part = lines.add(proof, t, w, ROW, whole, part);
                }
                if (part == REFUSED) {
                    return REFUSED;
                }
                whole = part;
            }
            return whole;
        }

        private int sayNeighbours(int proof, int v, int w, int depth) {
            int k = desk.classes.equationOf(v, w);
            if (k != NONE) {
                return sayEquation(proof, k, v, w);
            }
            int i = sayPath(proof, terms.leftOf(v), terms.leftOf(w), depth + 1);
            if (i == REFUSED) {
                return REFUSED;
            }
            int j = 0;
            if (terms.signOf(v) == PAIR) {
                j = sayPath(proof, terms.rightOf(v), terms.rightOf(w), depth + 1);
            }
            return j == REFUSED ? REFUSED : lines.add(proof, v, w, WITHIN, i, j);
        }

        private int sayEquation(int proof, int k, int v, int w) {
            int l = desk.book.leftOf(k);
            int told = lines.add(proof, l, desk.book.rightOf(k), TOLD, k, 0);
            if (told == REFUSED || l == v) {
                return told;
            }
            return lines.add(proof, v, w, TURNED, told, 0);
        }

        private int pathAt(int place) {
            return place >= 0 && place < path.length ? path[place] : NONE;
        }
    }

    /** Makes ACCEPTED PROOFS SHORT. */
    private static final class Shortener {
        private final Lines lines;
        private final Checks checks;
        // For each line the one that stands for it; then, for those that stay, their new number.
        private final int[] standIn = new int[Lines.MOST];

        Shortener(Lines lines, Checks checks) {
            this.lines = lines;
            this.checks = checks;
        }

        /** How many lines of an ACCEPTED PROOF went. */
        int makeShort(int proof) {
            int count = lines.countOf(proof);
            for (int k = 0; k < count && k < Lines.MOST; k++) {
                renameNamed(Lines.slotOf(proof, k));
                standIn[k] = firstSame(proof, k);
            }
            int stay = findStaying(proof, standInOf(count - 1));
            int next = 0;
            for (int k = 0; k < count && k < Lines.MOST; k++) {
                if ((stay >> k & 1) != 0) {
                    renameNamed(Lines.slotOf(proof, k));
                    lines.move(Lines.slotOf(proof, k), Lines.slotOf(proof, next));
                    standIn[k] = next;
                    next++;
                }
            }
            lines.cut(proof, next);
            return count - next;
        }

        private int standInOf(int k) {
            return k >= 0 && k < Lines.MOST ? standIn[k] : NONE;
        }

        private void renameNamed(int slot) {
            lines.rename(slot, standInOf(lines.firstOf(slot)), standInOf(lines.secondOf(slot)));
        }

        /** The first line ahead of k that stands for itself and may stand for k; k, if none may. */
        private int firstSame(int proof, int k) {
            int slot = Lines.slotOf(proof, k);
            for (int n = 0; n < k && lines.ruleOf(slot) != ASSUME; n++) {
                int ahead = Lines.slotOf(proof, n);
                boolean isSame = lines.haveSameSides(ahead, slot) && checks.hangsOf(ahead) == checks.hangsOf(slot);
                if (isSame && standInOf(n) == n) {
                    return n;
                }
            }
            return k;
        }

        /** The set of the last line, all that it names, those that these name, and so on. */
        private int findStaying(int proof, int last) {
            int stay = last >= 0 && last < Lines.MOST ? 1 << last : 0;
            for (int k = last; k >= 0; k--) {
                int slot = Lines.slotOf(proof, k);
                if ((stay >> k & 1) != 0) {
                    stay |= lines.namesFirst(slot) ? 1 << lines.firstOf(slot) : 0;
                    stay |= lines.namesSecond(slot) ? 1 << lines.secondOf(slot) : 0;
                }
            }
            return stay;
        }
    }
}
