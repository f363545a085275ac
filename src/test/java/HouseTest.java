/** Promises 42 to 45: house, knock, isSound, digest. */
public final class HouseTest {
    private HouseTest() {
    }

    public static void main(String[] args) {
        checkDigestOfNew();
        checkDigest("a rich object", rich());
        checkThatReadingChangesNothing();
        Due.end("HouseTest, digest");
        Script.run("HouseTest", HOUSE, KNOCK, SOUND);
    }

    // Promise 42
    private static final String HOUSE = """
            house 7 -> throws.IllegalArgumentException
            house -1 -> throws.IllegalArgumentException
            term 6 1 0 -> 6
            term 6 3 0 -> 7
            house 0 -> 8
            house 1 -> 4
            tell 0 1 2
            say 0 1 2 0 0 0
            say 0 2 1 2 0 0
            say 1 0 0 1 0 0
            say 2 0 1 1 0 0
            house 2 -> 4
            house 3 -> 2
            keep 0 0
            keep 1 1
            keep 5 1
            house 4 -> 3
            house 5 -> 3
            takeBack 0 0
            house 3 -> 1
            house 5 -> 2
            drop 1
            house 4 -> 2
            house 5 -> 1
            house 6 -> 0
            knock
            house 6 -> 1
            unsay 1
            house 3 -> 0
            house 2 -> 3
            """;

    // Promise 43
    private static final String KNOCK = """
            knock -> 1
            knock -> 2
            times 10 knock -> 12
            house 6 -> 12
            new
            knock -> 1
            """;

    // Promise 44: what is RIGHT holds; a wrong line and what is behind it need not.
    private static final String SOUND = """
            isSound -> true
            say 0 0 1 1 0 0
            isSound -> true
            say 0 0 1 8 0 0
            say 0 1 0 2 1 0
            isSound -> true
            term 6 2 0 -> 6
            tell 0 0 1
            tell 0 1 6
            tell 0 6 0
            isSound -> true
            tell 1 6 2
            tell 1 2 6
            isSound -> true
            say 1 0 0 8 0 0             # an INDUCT line, RIGHT
            say 1 0 0 9 0 0
            isSound -> true
            """;

    // Promise 45, of a new object: house(); ofBook() and classOf() of o, a, b, BOOK by BOOK; common(); firstWrong()
    // PROOF by PROOF; isSound().
    private static final int[] OF_NEW = {
        6, 3, 0, 0, 0, 0, 0,
        0, 0, 0, 0, 0, 0, 3, 512, -1, 0, 1, 2,
        0, 0, 0, 0, 0, 0, 3, 512, -1, 0, 1, 2,
        3, -1, -1, -1, 1};

    private static void checkDigestOfNew() {
        sum = 6111;
        for (int v : OF_NEW) {
            add(v);
        }
        Due.is("digest() of a new object", sum, () -> new Equalbook().digest());
    }

    static Equalbook rich() {
        Equalbook x = new Equalbook();
        int sa = x.term(6, 1, 0);
        int sb = x.term(6, 2, 0);
        int sx = x.term(6, 3, 0);
        x.term(7, sa, sb);
        x.tell(0, 1, 2);
        x.tell(0, sx, 3);
        x.tell(0, 0, 1);
        x.takeBack(0, 1);
        x.tell(1, sb, 0);
        x.unlike(0, 1, 2);
        x.unlike(1, 0, 2);
        x.law(1, true, true);
        x.level(1);
        x.find(0, sa, sb);
        x.say(0, 3, 4, 8, 0, 0);
        x.say(0, 4, 3, 2, 2, -1);
        x.say(0, sx, 3, 0, 1, 0);
        x.find(2, 0, 2);
        x.keep(4, 2);
        x.say(1, 0, 2, 12, 4, 0);
        x.say(1, 0, 0, 8, 4, 0);
        x.say(1, 0, 0, 10, 1, 1);
        x.keep(1, 2);
        x.knock();
        return x;
    }

    private static long sum;

    private static void add(long v) {
        sum = sum * 31 + v;
    }

    private static void add(String text) {
        for (char c : text.toCharArray()) {
            add(c);
        }
    }

    /** The checksum once more, from what the other calls answer. */
    static long digestOf(Equalbook x) {
        sum = 6111;
        for (int what = 0; what <= 6; what++) {
            add(x.house(what));
        }
        for (int t = 6; t < x.house(0); t++) {
            add(x.text(t));
        }
        for (int book = 0; book < 2; book++) {
            for (int what = 0; what <= 8; what++) {
                add(x.ofBook(book, what));
            }
            for (int k = 0; k < x.ofBook(book, 0); k++) {
                add(x.equation(book, k));
            }
            for (int t = 0; t < x.house(0); t++) {
                if (x.ofTerm(t, 2) == 1) {
                    add(x.classOf(book, t));
                }
            }
        }
        add(x.common());
        for (int proof = 0; proof < 3; proof++) {
            add(x.firstWrong(proof));
            for (int k = 0; k < countLines(x, proof); k++) {
                for (int what = 0; what <= 7; what++) {
                    add(x.ofLine(proof, k, what));
                }
                add(x.fails(proof, k));
            }
        }
        for (int name = 0; name < 6; name++) {
            if (isLemma(x, name)) {
                add(name);
                for (int what = 0; what <= 5; what++) {
                    add(x.ofLemma(name, what));
                }
            }
        }
        add(x.isSound() ? 1 : 0);
        return sum;
    }

    private static int countLines(Equalbook x, int proof) {
        for (int k = 0; k < 24; k++) {
            int at = k;
            if (Due.answer(() -> x.line(proof, at)).equals("throws.IndexOutOfBoundsException")) {
                return k;
            }
        }
        return 24;
    }

    private static boolean isLemma(Equalbook x, int name) {
        return !Due.answer(() -> x.ofLemma(name, 0)).equals("throws.IndexOutOfBoundsException");
    }

    private static void checkDigest(String of, Equalbook x) {
        long want = digestOf(x);
        Due.is("digest() of " + of, want, x::digest);
    }

    private static void checkThatReadingChangesNothing() {
        Equalbook x = rich();
        long before = x.digest();
        x.path(0, 0, 2);
        x.why(0, 0, 2);
        x.without(0, 0, 1, 2);
        x.clashWhy(0);
        x.steps(0, 0, 2, 4);
        x.meet(0, 0, 2, 3);
        x.reached(1, 0, 4);
        x.normal(1, 9);
        x.tableAt(0, 0);
        x.valueIn(0, 0, 0);
        x.equalIn(0, 0, 0);
        Due.fails("tell(0, 0, 64)", IndexOutOfBoundsException.class, () -> x.tell(0, 0, 64));
        Due.fails("say(0, 0, 0, 15, 0, 0)", IllegalArgumentException.class, () -> x.say(0, 0, 0, 15, 0, 0));
        Due.fails("takeBack(0, 1)", IllegalStateException.class, () -> x.takeBack(0, 1));
        Due.is("find(0, 0, 9), that are not LIKE", -9, () -> x.find(0, 0, 9));
        Due.is("digest() behind calls that change nothing", before, x::digest);
        Equalbook y = rich();
        Due.is("digest() of another object, made alike", before, y::digest);
        y.knock();
        long after = y.digest();
        Due.is("digest() behind knock() is another one", true, () -> after != before);
    }
}
