/** Promises 1 to 5: a new object, term, put, text, ofTerm. */
public final class TermsTest {
    private static final String INDEX = "throws.IndexOutOfBoundsException";
    private static final String ARGUMENT = "throws.IllegalArgumentException";

    private TermsTest() {
    }

    public static void main(String[] args) {
        Script.run("TermsTest", NEW, TERM, NEW_LIKE, LARGE, full(), PUT, PUT_ORDER, fullPut(), deep(),
                TEXT, OF_TERM);
    }

    // Promise 1
    private static final String NEW = """
            text 0 -> o
            text 1 -> a
            text 2 -> b
            text 3 -> x
            text 4 -> y
            text 5 -> z
            text 6 -> throws.IndexOutOfBoundsException
            house 0 -> 6
            house 1 -> 3
            house 2 -> 0
            house 3 -> 0
            house 4 -> 0
            house 5 -> 0
            house 6 -> 0
            ofBook 0 0 -> 0
            ofBook 0 1 -> 0
            ofBook 0 2 -> 0
            ofBook 0 3 -> 0
            ofBook 0 4 -> 0
            ofBook 0 5 -> 0
            ofBook 0 6 -> 3
            ofBook 0 7 -> 512
            ofBook 0 8 -> -1
            ofBook 1 0 -> 0
            ofBook 1 5 -> 0
            ofBook 1 6 -> 3
            ofBook 1 7 -> 512
            ofBook 1 8 -> -1
            firstWrong 0 -> -1
            firstWrong 1 -> -1
            firstWrong 2 -> -1
            line 2 0 -> throws.IndexOutOfBoundsException
            ofLemma 0 0 -> throws.IndexOutOfBoundsException
            isSound -> true
            """;

    // Promise 2
    private static final String TERM = """
            term 0 -5 99 -> 0
            term 3 0 0 -> 3
            term 5 64 64 -> 5
            house 0 -> 6
            term 6 0 99 -> 6        # the right part is not looked at
            term 6 0 -7 -> 6        # kept once
            term 7 0 1 -> 7
            term 7 1 0 -> 8
            term 7 0 1 -> 7
            term 6 3 0 -> 9
            term 7 9 9 -> 10
            house 0 -> 11
            term -1 0 0 -> throws.IllegalArgumentException
            term 8 0 0 -> throws.IllegalArgumentException
            term 8 -1 -1 -> throws.IllegalArgumentException
            term 6 -1 0 -> throws.IndexOutOfBoundsException
            term 6 11 0 -> throws.IndexOutOfBoundsException
            term 7 11 0 -> throws.IndexOutOfBoundsException
            term 7 0 11 -> throws.IndexOutOfBoundsException
            term 7 0 -1 -> throws.IndexOutOfBoundsException
            term 6 10 0 -> 11
            term 6 64 0 -> throws.IndexOutOfBoundsException
            """;

    // Promises 2 and 3: a new TERM is LIKE others at once.
    private static final String NEW_LIKE = """
            tell 0 1 2
            term 6 1 0 -> 6             # s(a)
            term 6 3 0 -> 7             # s(x)
            ofBook 0 6 -> 3
            normal 0 7 -> s(x)
            put 7 3 2 -> 8              # s(b)
            like 0 6 8 -> true
            ofBook 0 6 -> 3
            normal 0 8 -> s(b)
            term 6 6 0 -> 9
            term 6 8 0 -> 10
            like 0 9 10 -> true
            say 0 0 0 5 0 11
            say 0 0 0 1 0 0
            say 0 0 0 5 1 11
            ofLine 0 2 0 -> 1
            term 6 9 0 -> 11
            ofLine 0 2 0 -> 0           # now there is the TERM 11
            """;

    // Promises 2 to 4: 15 deep.
    private static String deep() {
        StringBuilder text = new StringBuilder();
        for (int k = 0; k < 14; k++) {
            text.append("term 6 ").append(k == 0 ? 3 : 5 + k).append(" 0 -> ").append(6 + k).append('\n');
        }
        text.append("text 19 -> s(s(s(s(s(s(s(s(s(s(s(s(s(s(x))))))))))))))\n");
        text.append("put 19 3 1 -> 33\n");
        text.append("text 33 -> s(s(s(s(s(s(s(s(s(s(s(s(s(s(a))))))))))))))\n");
        text.append("text 20 -> s(a)\n");
        text.append("normal 0 33 -> s(s(s(s(s(s(s(s(s(s(s(s(s(s(a))))))))))))))\n");
        text.append("say 0 19 3 8 0 0\nsay 0 33 1 5 0 1\nofLine 0 1 0 -> 5\n");
        text.append("say 0 33 3 5 0 1\nofLine 0 2 0 -> 3\n");
        return text.toString();
    }

    // Promise 2: SIZE 15 and 16.
    private static final String LARGE = """
            term 7 0 0 -> 6          # 3
            term 7 6 6 -> 7          # 7
            term 7 7 7 -> 8          # 15
            ofTerm 8 1 -> 15
            term 6 8 0 -> -9
            term 7 8 0 -> -9
            term 7 7 8 -> -9
            term 6 7 0 -> 9          # 8
            term 7 9 7 -> -9         # 16
            term 7 9 6 -> 10         # 12
            term 7 10 0 -> 11        # 14
            term 6 11 0 -> 12        # 15
            term 7 11 0 -> -9        # 16
            term 6 12 0 -> -9
            house 0 -> 13
            """;

    // Promise 2: 64 TERMS.
    private static String full() {
        StringBuilder text = new StringBuilder();
        for (int k = 6; k < 64; k++) {
            // 58 pairs of the first eight TERMS
            text.append("term 7 ").append((k - 6) / 8).append(' ').append((k - 6) % 8);
            text.append(" -> ").append(k).append('\n');
        }
        text.append("house 0 -> 64\n");
        text.append("term 7 0 0 -> 6\n");
        text.append("term 7 7 1 -> 63\n");
        text.append("term 7 7 2 -> -9\n");
        text.append("term 6 0 0 -> -9\n");
        text.append("term 4 0 0 -> 4\n");
        text.append("term 6 64 0 -> " + INDEX + "\n");
        text.append("term 8 64 0 -> " + ARGUMENT + "\n");
        text.append("house 0 -> 64\n");
        text.append("text 63 -> p(p(o,a),a)\n");
        return text.toString();
    }

    // Promise 3
    private static final String PUT = """
            term 6 3 0 -> 6             # s(x)
            term 7 6 4 -> 7             # p(s(x),y)
            term 7 7 6 -> 8             # p(p(s(x),y),s(x))
            put 8 3 1 -> 11             # s(a) 9, p(s(a),y) 10
            text 9 -> s(a)
            text 10 -> p(s(a),y)
            text 11 -> p(p(s(a),y),s(a))
            put 8 5 1 -> 8              # no z in it
            put 3 3 8 -> 8
            put 4 3 8 -> 4
            put 0 3 8 -> 0
            put 6 3 3 -> 6
            put 6 3 6 -> 12             # s(s(x)): at once, not again and again
            text 12 -> s(s(x))
            put 7 4 3 -> 13
            text 13 -> p(s(x),x)
            put 14 3 0 -> throws.IndexOutOfBoundsException
            put -1 3 0 -> throws.IndexOutOfBoundsException
            put 0 3 14 -> throws.IndexOutOfBoundsException
            put 0 3 -1 -> throws.IndexOutOfBoundsException
            put 0 2 -1 -> throws.IndexOutOfBoundsException
            put 0 2 0 -> throws.IllegalArgumentException
            put 0 6 0 -> throws.IllegalArgumentException
            put 8 3 7 -> 16             # s(p(s(x),y)) 14, p(14,y) 15, p(15,14) 16
            ofTerm 16 1 -> 13
            text 14 -> s(p(s(x),y))
            text 15 -> p(s(p(s(x),y)),y)
            put 8 3 8 -> -9             # 7 + 2 * 6 = 19
            house 0 -> 17
            term 7 8 0 -> 17            # 9
            term 6 17 0 -> 18           # 10
            put 8 4 18 -> -9            # 7 + 9 = 16
            house 0 -> 19
            put 8 4 17 -> 20            # 7 + 8 = 15
            ofTerm 20 1 -> 15
            """;

    // Promise 3: parts ahead of what they stand in, the left one first, by the place in the new TERM.
    private static final String PUT_ORDER = """
            term 6 4 0 -> 6             # s(y)
            term 6 3 0 -> 7             # s(x)
            term 7 7 6 -> 8             # p(s(x),s(y))
            term 7 8 7 -> 9
            put 9 3 4 -> 11
            text 10 -> p(s(y),s(y))
            text 11 -> p(p(s(y),s(y)),s(y))
            put 9 4 0 -> 14
            text 12 -> s(o)
            text 13 -> p(s(x),s(o))
            text 14 -> p(p(s(x),s(o)),s(x))
            """;

    // Promise 3: 64 TERMS; what cannot be done leaves nothing behind.
    private static String fullPut() {
        StringBuilder text = new StringBuilder();
        text.append("term 6 3 0 -> 6\n");
        text.append("term 6 6 0 -> 7\n");
        text.append("term 6 7 0 -> 8\n");
        for (int k = 9; k < 62; k++) {
            text.append("term 7 ").append((k - 9) / 9).append(' ').append((k - 9) % 9);
            text.append(" -> ").append(k).append('\n');
        }
        text.append("put 8 3 0 -> -9\n");
        text.append("house 0 -> 62\n");
        text.append("put 7 3 0 -> 63\n");
        text.append("text 62 -> s(o)\n");
        text.append("put 8 3 0 -> -9\n");
        text.append("put 8 3 3 -> 8\n");
        text.append("put 7 3 6 -> 8\n");
        text.append("house 0 -> 64\n");
        return text.toString();
    }

    // Promise 4
    private static final String TEXT = """
            term 6 3 0 -> 6
            term 7 6 1 -> 7
            term 7 2 7 -> 8
            term 6 8 0 -> 9
            text 6 -> s(x)
            text 7 -> p(s(x),a)
            text 8 -> p(b,p(s(x),a))
            text 9 -> s(p(b,p(s(x),a)))
            text 10 -> throws.IndexOutOfBoundsException
            text -1 -> throws.IndexOutOfBoundsException
            text -2147483648 -> throws.IndexOutOfBoundsException
            """;

    // Promise 5
    private static final String OF_TERM = """
            term 6 3 0 -> 6
            term 7 6 1 -> 7
            term 7 4 5 -> 8
            term 7 7 8 -> 9
            term 6 2 0 -> 10
            ofTerm 0 0 -> 0
            ofTerm 2 0 -> 2
            ofTerm 6 0 -> 6
            ofTerm 9 0 -> 7
            ofTerm 0 1 -> 1
            ofTerm 6 1 -> 2
            ofTerm 7 1 -> 4
            ofTerm 9 1 -> 8
            ofTerm 0 2 -> 1
            ofTerm 3 2 -> 0
            ofTerm 6 2 -> 0
            ofTerm 10 2 -> 1
            ofTerm 9 2 -> 0
            ofTerm 0 3 -> -1
            ofTerm 0 4 -> -1
            ofTerm 6 3 -> 3
            ofTerm 6 4 -> -1
            ofTerm 7 3 -> 6
            ofTerm 7 4 -> 1
            ofTerm 0 5 -> 0
            ofTerm 3 5 -> 1
            ofTerm 4 5 -> 2
            ofTerm 5 5 -> 4
            ofTerm 8 5 -> 6
            ofTerm 7 5 -> 1
            ofTerm 9 5 -> 7
            ofTerm 10 5 -> 0
            ofTerm 0 6 -> throws.IllegalArgumentException
            ofTerm 0 -1 -> throws.IllegalArgumentException
            ofTerm 11 6 -> throws.IndexOutOfBoundsException
            ofTerm -1 0 -> throws.IndexOutOfBoundsException
            """;
}
