/** Promises 6 to 13: tell, unlike, takeBack, law, level, back, equation, ofBook. */
public final class BooksTest {
    private BooksTest() {
    }

    public static void main(String[] args) {
        Script.run("BooksTest", TELL, UNLIKE, TAKE_BACK, LAW, LEVEL, BACK, BACK_AND_AGAIN, EQUATION, OF_BOOK, CLASH);
    }

    // Promise 6
    private static final String TELL = """
            tell 0 1 2 -> 0
            tell 0 3 3 -> 1
            tell 1 0 0 -> 0             # a BOOK of its own
            tell 0 1 2 -> 2             # once more, with a number of its own
            tell 2 0 0 -> throws.IndexOutOfBoundsException
            tell -1 0 0 -> throws.IndexOutOfBoundsException
            tell 0 6 0 -> throws.IndexOutOfBoundsException
            tell 0 0 6 -> throws.IndexOutOfBoundsException
            tell 0 -1 0 -> throws.IndexOutOfBoundsException
            ofBook 0 0 -> 3
            times 11 tell 0 4 5 -> 13
            tell 0 0 0 -> throws.IllegalStateException
            tell 0 0 6 -> throws.IndexOutOfBoundsException
            tell 2 0 0 -> throws.IndexOutOfBoundsException
            takeBack 0 0 -> 13
            tell 0 0 0 -> throws.IllegalStateException      # GONE keeps its place
            tell 1 1 1 -> 1
            ofBook 0 0 -> 14
            """;

    // Promise 7
    private static final String UNLIKE = """
            unlike 0 0 1 -> 0
            unlike 0 1 1 -> 1
            unlike 1 0 0 -> 0
            unlike 0 3 0 -> throws.IllegalArgumentException
            unlike 0 0 3 -> throws.IllegalArgumentException
            unlike 0 3 6 -> throws.IndexOutOfBoundsException
            unlike 0 6 0 -> throws.IndexOutOfBoundsException
            unlike 0 0 -1 -> throws.IndexOutOfBoundsException
            unlike 2 3 3 -> throws.IndexOutOfBoundsException
            unlike -1 0 0 -> throws.IndexOutOfBoundsException
            ofBook 0 3 -> 2
            times 4 unlike 0 0 2 -> 5
            unlike 0 0 2 -> throws.IllegalStateException
            unlike 0 3 2 -> throws.IllegalArgumentException
            unlike 0 6 0 -> throws.IndexOutOfBoundsException
            ofBook 0 3 -> 6
            unlike 1 0 1 -> 1
            """;

    // Promise 8
    private static final String TAKE_BACK = """
            tell 0 1 2
            tell 0 0 3
            tell 0 4 5
            takeBack 0 1 -> 2
            takeBack 0 1 -> throws.IllegalStateException
            takeBack 0 3 -> throws.IndexOutOfBoundsException
            takeBack 0 -1 -> throws.IndexOutOfBoundsException
            takeBack 1 0 -> throws.IndexOutOfBoundsException
            takeBack 2 1 -> throws.IndexOutOfBoundsException
            takeBack 0 0 -> 1
            takeBack 0 2 -> 0
            ofBook 0 0 -> 3
            ofBook 0 1 -> 0
            tell 0 1 2 -> 3
            takeBack 0 3 -> 0
            """;

    // Promise 9
    private static final String LAW = """
            law 0 1 0 -> 0
            law 0 0 1 -> 1
            law 0 1 1 -> 2
            law 0 0 0 -> 3
            law 0 0 0 -> 0
            law 1 1 1 -> 0              # a BOOK of its own
            law 0 1 0 -> 0
            ofBook 0 5 -> 1
            ofBook 1 5 -> 3
            law 2 0 0 -> throws.IndexOutOfBoundsException
            law -1 0 0 -> throws.IndexOutOfBoundsException
            """;

    // Promise 10
    private static final String LEVEL = """
            level 0 -> 1
            level 0 -> 2
            level 1 -> 1
            level 0 -> 3
            level 0 -> 4
            level 0 -> 5
            level 0 -> throws.IllegalStateException
            level 1 -> 2
            level 2 -> throws.IndexOutOfBoundsException
            level -1 -> throws.IndexOutOfBoundsException
            ofBook 0 4 -> 5
            back 0 -> 4
            level 0 -> 5
            level 0 -> throws.IllegalStateException
            """;

    // Promise 11: all of the BOOK comes back, and of that BOOK alone.
    private static final String BACK = """
            back 0 -> throws.IllegalStateException
            back 2 -> throws.IndexOutOfBoundsException
            back -1 -> throws.IndexOutOfBoundsException
            tell 0 1 2
            unlike 0 0 1
            level 0 -> 1
            takeBack 0 0
            tell 0 0 1
            unlike 0 1 2
            law 0 1 0
            level 0 -> 2
            law 0 0 1
            tell 0 2 2
            takeBack 0 1
            unlike 0 2 2
            tell 1 1 1
            ofBook 0 0 -> 3
            ofBook 0 1 -> 1
            back 0 -> 1
            ofBook 0 0 -> 2
            ofBook 0 1 -> 1
            ofBook 0 3 -> 2
            ofBook 0 5 -> 1
            equation 0 0 -> a = b gone
            equation 0 1 -> o = a
            equation 0 2 -> throws.IndexOutOfBoundsException
            ofBook 0 8 -> 0
            back 0 -> 0
            equation 0 0 -> a = b
            equation 0 1 -> throws.IndexOutOfBoundsException
            ofBook 0 3 -> 1
            ofBook 0 5 -> 0
            ofBook 0 8 -> -1
            like 0 1 2 -> true
            like 0 0 1 -> false
            ofBook 1 0 -> 1
            back 0 -> throws.IllegalStateException
            back 1 -> throws.IllegalStateException
            """;

    // Promise 11: what is told behind a LEVEL makes place again, and is not GONE when it is told anew.
    private static final String BACK_AND_AGAIN = """
            tell 0 0 0
            level 0
            times 13 tell 0 1 2 -> 13
            tell 0 1 2 -> throws.IllegalStateException
            takeBack 0 1 -> 13
            takeBack 0 0 -> 12
            back 0 -> 0
            ofBook 0 1 -> 1
            tell 0 2 0 -> 1
            equation 0 1 -> b = o
            equation 0 0 -> o = o
            takeBack 0 1 -> 1
            level 0
            back 0
            equation 0 1 -> b = o gone
            """;

    // Promise 12
    private static final String EQUATION = """
            term 6 3 0 -> 6
            term 7 6 1 -> 7
            tell 0 7 3 -> 0
            tell 0 6 6 -> 1
            tell 1 0 7 -> 0
            equation 0 0 -> p(s(x),a) = x
            equation 0 1 -> s(x) = s(x)
            equation 1 0 -> o = p(s(x),a)
            takeBack 0 0
            equation 0 0 -> p(s(x),a) = x gone
            equation 0 2 -> throws.IndexOutOfBoundsException
            equation 0 -1 -> throws.IndexOutOfBoundsException
            equation 1 1 -> throws.IndexOutOfBoundsException
            equation 2 0 -> throws.IndexOutOfBoundsException
            equation -1 0 -> throws.IndexOutOfBoundsException
            """;

    // Promise 13
    private static final String OF_BOOK = """
            term 6 1 0 -> 6             # s(a)
            term 6 2 0 -> 7             # s(b)
            tell 0 1 2
            tell 0 3 1
            tell 0 1 3
            tell 0 0 0
            takeBack 0 2
            unlike 0 0 1
            unlike 0 6 7
            law 0 0 1
            level 0
            ofBook 0 0 -> 4
            ofBook 0 1 -> 3
            ofBook 0 2 -> 2             # a = b, o = o
            ofBook 0 3 -> 2
            ofBook 0 4 -> 1
            ofBook 0 5 -> 2
            ofBook 0 6 -> 3             # o; a, b; s(a), s(b)
            ofBook 0 8 -> 1
            takeBack 0 0
            ofBook 0 2 -> 1
            ofBook 0 6 -> 5
            ofBook 0 8 -> -1
            ofBook 1 0 -> 0
            ofBook 1 6 -> 5
            ofBook 1 7 -> 512
            ofBook 0 9 -> throws.IllegalArgumentException
            ofBook 0 -1 -> throws.IllegalArgumentException
            ofBook 2 9 -> throws.IndexOutOfBoundsException
            ofBook -1 0 -> throws.IndexOutOfBoundsException
            new
            tell 0 0 1                  # TABLES with o as a: half of them
            ofBook 0 7 -> 256
            tell 0 2 1                  # and b
            ofBook 0 7 -> 128
            tell 0 3 1                  # x is not a with all VALUES
            ofBook 0 7 -> 0
            takeBack 0 2
            law 0 1 0
            ofBook 0 7 -> 64            # half of the p are in ORDER
            law 0 0 1
            ofBook 0 7 -> 64            # 8 of 16 p are GROUPS: 0, 1, left, right, and, or, unlike, like
            law 0 1 1
            ofBook 0 7 -> 48            # all of these but left and right
            """;

    // Promise 13: CLASH is the first pair.
    private static final String CLASH = """
            ofBook 0 8 -> -1
            unlike 0 0 1
            unlike 0 1 2
            unlike 0 2 2
            ofBook 0 8 -> 2
            tell 0 1 2
            ofBook 0 8 -> 1
            tell 0 2 0
            ofBook 0 8 -> 0
            takeBack 0 0
            ofBook 0 8 -> 2
            ofBook 1 8 -> -1
            """;
}
