/** Promises 22 to 25: steps, meet, reached, normal. */
public final class StepsTest {
    private StepsTest() {
    }

    public static void main(String[] args) {
        Script.run("StepsTest", ROW, BOTH_WAYS, VARIABLES, PARTS, SIXTY, SIXTY_ONE, large(), MEET, MEET_BOUND,
                NORMAL, NORMAL_ORDER, WRONG);
    }

    // Promises 22 and 24: a row of STEPS.
    private static final String ROW = """
            term 6 0 0 -> 6             # s(o)
            tell 0 0 1
            tell 0 1 2
            tell 0 2 6
            steps 0 0 0 0 -> 0
            steps 0 0 1 0 -> -1
            steps 0 0 1 1 -> 1
            steps 0 0 1 4 -> 1
            steps 0 0 2 1 -> -1
            steps 0 0 2 2 -> 2
            steps 0 0 6 2 -> -1
            steps 0 0 6 3 -> 3
            steps 0 6 0 4 -> 3
            reached 0 0 0 -> 1
            reached 0 0 1 -> 2
            reached 0 0 2 -> 3
            reached 0 0 3 -> 4
            reached 0 0 4 -> 5          # and s(a), that is not kept
            reached 1 0 4 -> 1
            house 0 -> 7
            takeBack 0 1
            steps 0 0 2 4 -> -1
            steps 1 0 1 4 -> -1
            law 0 1 1
            term 7 0 2 -> 7
            term 7 2 0 -> 8
            steps 0 7 8 4 -> -1         # LAWS do not matter
            """;

    // Both ways, where no variable stands on the other side alone.
    private static final String BOTH_WAYS = """
            term 7 3 4 -> 6             # p(x,y)
            term 7 3 0 -> 7             # p(x,o)
            term 7 1 0 -> 8             # p(a,o)
            term 7 1 2 -> 9             # p(a,b)
            tell 0 6 3                  # p(x,y) = x: not from x
            steps 0 9 1 1 -> 1
            steps 0 1 9 4 -> -1
            reached 0 1 4 -> 1
            takeBack 0 0
            tell 0 3 6                  # the same, told the other way
            steps 0 9 1 1 -> 1
            reached 0 1 4 -> 1
            takeBack 0 1
            tell 0 7 3                  # p(x,o) = x
            steps 0 8 1 1 -> 1
            steps 0 1 8 1 -> 1
            takeBack 0 2
            tell 0 3 1                  # x = a: each part becomes a, but a not something else
            reached 0 2 4 -> 2
            reached 0 1 4 -> 1
            reached 0 9 1 -> 3          # a, p(a,a)
            """;

    // What stands for variables; variables of the TERM are like constants.
    private static final String VARIABLES = """
            term 7 3 3 -> 6             # p(x,x)
            term 7 1 2 -> 7             # p(a,b)
            term 7 1 1 -> 8             # p(a,a)
            term 6 4 0 -> 9             # s(y)
            term 7 9 9 -> 10            # p(s(y),s(y))
            tell 0 6 3                  # p(x,x) = x
            steps 0 7 1 2 -> -1
            steps 0 8 1 1 -> 1
            steps 0 10 9 1 -> 1
            steps 0 9 10 1 -> 1
            steps 0 5 6 2 -> -1
            new
            term 7 3 4 -> 6             # p(x,y)
            term 7 4 3 -> 7             # p(y,x)
            term 7 3 3 -> 8
            term 6 1 0 -> 9             # s(a)
            term 6 3 0 -> 10            # s(x)
            tell 0 6 7
            steps 0 7 6 1 -> 1          # at once
            steps 0 6 8 4 -> -1
            reached 0 6 4 -> 2
            reached 0 8 4 -> 1
            tell 0 9 2                  # s(a) = b
            steps 0 10 2 4 -> -1        # x of the TERM is not a
            steps 0 9 2 1 -> 1
            tell 0 10 3                 # s(x) = x
            steps 0 10 3 1 -> 1
            put 10 3 5 -> 11            # s(z)
            steps 0 11 5 1 -> 1
            """;

    // Some part, one at a time.
    private static final String PARTS = """
            term 7 1 1 -> 6             # p(a,a)
            term 6 6 0 -> 7             # s(p(a,a))
            term 7 2 1 -> 8             # p(b,a)
            term 6 8 0 -> 9
            term 7 2 2 -> 10
            term 6 10 0 -> 11           # s(p(b,b))
            tell 0 1 2
            steps 0 7 9 1 -> 1
            steps 0 7 11 1 -> -1
            steps 0 7 11 2 -> 2
            reached 0 7 1 -> 3
            reached 0 7 2 -> 4
            reached 0 7 4 -> 4
            tell 0 7 0                  # s(p(a,a)) = o: all of it
            steps 0 7 0 1 -> 1
            steps 0 11 0 2 -> -1
            steps 0 11 0 3 -> 3
            """;

    // Just 60 TERMS within 3 STEPS, more within 4.
    private static final String SIXTY = """
            term 7 2 3 -> 6             # p(b,x)
            term 7 2 0 -> 7             # p(b,o)
            tell 0 2 0                  # b = o
            tell 0 7 4                  # p(b,o) = y: of each part comes p(b,o)
            reached 0 6 0 -> 1
            reached 0 6 1 -> 5
            reached 0 6 2 -> 18
            reached 0 6 3 -> 60
            reached 0 6 4 -> -9
            steps 0 6 7 4 -> 1          # found ahead of that
            steps 0 6 1 3 -> -1
            steps 0 6 1 4 -> -9
            meet 0 6 1 3 -> 2           # both go to p(b,o) in 1
            """;

    // 51 within 3 STEPS, just 61 within 4.
    private static final String SIXTY_ONE = """
            term 7 3 1 -> 6             # p(x,a)
            term 7 3 6 -> 7             # p(x,p(x,a))
            tell 0 1 2
            tell 0 3 0
            tell 0 1 3
            reached 0 7 1 -> 11
            reached 0 7 2 -> 31
            reached 0 7 3 -> 51
            reached 0 7 4 -> -9
            """;

    // SIZE 15 is come to, 16 is not.
    private static String large() {
        StringBuilder text = new StringBuilder();
        text.append("term 6 0 0 -> 6\n");
        for (int k = 7; k < 20; k++) {
            text.append("term 6 ").append(k - 1).append(" 0 -> ").append(k).append('\n');
        }
        text.append("ofTerm 19 1 -> 15\n");
        text.append("term 6 3 0 -> 20\n");
        text.append("tell 0 20 3\n");
        text.append("steps 0 18 19 1 -> 1\n");
        text.append("reached 0 18 1 -> 3\n");
        text.append("reached 0 19 1 -> 2\n");
        text.append("reached 0 19 4 -> 5\n");
        text.append("new\n");
        text.append("term 7 3 3 -> 6\nterm 7 0 0 -> 7\nterm 7 7 7 -> 8\nterm 7 8 8 -> 9\n");
        text.append("tell 0 6 3\n");
        // p(x,x) = x from a TERM of SIZE 15 with seven p of two that are the same: no place for one more.
        text.append("reached 0 9 1 -> 8\n");
        return text.toString();
    }

    // Promise 23
    private static final String MEET = """
            term 6 1 0 -> 6             # s(a)
            meet 0 0 0 0 -> 0
            meet 0 0 1 3 -> -1
            tell 0 3 1                  # x = a
            meet 0 0 1 0 -> -1
            meet 0 0 1 1 -> 1
            meet 0 1 0 1 -> 1
            meet 0 0 2 0 -> -1
            meet 0 0 2 1 -> 2           # both go to a
            steps 0 0 2 4 -> -1
            meet 0 6 2 1 -> 2
            meet 0 6 2 3 -> 2
            meet 1 0 2 3 -> -1
            meet 0 3 4 1 -> 2
            new
            tell 0 0 1
            tell 0 1 2
            meet 0 0 2 1 -> 2
            meet 0 0 2 3 -> 2
            meet 0 2 0 0 -> -1
            """;

    // Promise 23: neither above bound; more than 60 from the one or the other.
    private static final String MEET_BOUND = """
            term 6 0 0 -> 6
            term 6 6 0 -> 7
            term 6 7 0 -> 8             # s(s(s(o)))
            tell 0 0 1
            tell 0 1 2
            tell 0 2 7
            tell 0 7 8
            steps 0 0 7 3 -> 3
            meet 0 0 7 1 -> -1
            meet 0 0 7 2 -> 3
            new
            term 7 2 3 -> 6
            term 7 2 0 -> 7
            term 7 6 6 -> 8             # p(p(b,x),p(b,x)): more than 60 within 3
            tell 0 2 0
            tell 0 7 4
            reached 0 8 3 -> -9
            reached 0 6 3 -> 60
            meet 0 6 8 3 -> -9
            meet 0 8 6 3 -> -9
            meet 0 8 8 3 -> -9
            meet 0 6 6 3 -> 0
            meet 0 8 8 0 -> 0
            """;

    // Promise 25
    private static final String NORMAL = """
            term 7 1 2 -> 6             # p(a,b)
            term 7 6 3 -> 7             # p(p(a,b),x)
            term 7 2 3 -> 8
            term 7 1 8 -> 9             # p(a,p(b,x))
            term 6 7 0 -> 10            # s(p(p(a,b),x))
            term 7 10 7 -> 11           # p(s(p(p(a,b),x)),p(p(a,b),x)): 6 + 5 + 1
            normal 0 0 -> o
            normal 0 3 -> x
            normal 0 7 -> p(p(a,b),x)
            normal 0 9 -> p(a,p(b,x))
            law 0 0 1
            normal 0 7 -> p(a,b,x)
            normal 0 9 -> p(a,b,x)
            normal 0 10 -> s(p(a,b,x))
            normal 0 11 -> p(s(p(a,b,x)),a,b,x)
            normal 1 7 -> p(p(a,b),x)
            normal 0 6 -> p(a,b)
            law 0 0 0
            normal 0 11 -> p(s(p(p(a,b),x)),p(p(a,b),x))
            """;

    // Promise 25: ORDER, sign by sign, a beginning ahead of what goes on.
    private static final String NORMAL_ORDER = """
            term 7 2 1 -> 6             # p(b,a)
            term 7 6 0 -> 7             # p(p(b,a),o)
            term 6 2 0 -> 8             # s(b)
            term 6 1 0 -> 9             # s(a)
            term 7 8 9 -> 10            # p(s(b),s(a))
            term 7 10 7 -> 11           # p(p(s(b),s(a)),p(p(b,a),o))
            term 7 7 6 -> 12            # p(p(p(b,a),o),p(b,a))
            term 7 3 9 -> 13            # p(x,s(a))
            law 0 1 0
            normal 0 6 -> p(a,b)
            normal 0 7 -> p(o,p(a,b))
            normal 0 10 -> p(s(a),s(b))
            normal 0 11 -> p(p(o,p(a,b)),p(s(a),s(b)))
            normal 0 12 -> p(p(a,b),p(o,p(a,b)))
            normal 0 13 -> p(s(a),x)
            law 0 1 1
            normal 0 7 -> p(a,b,o)
            normal 0 11 -> p(a,b,o,s(a),s(b))
            normal 0 12 -> p(a,a,b,b,o)
            law 0 0 1
            normal 0 12 -> p(b,a,o,b,a)
            normal 0 11 -> p(s(b),s(a),b,a,o)
            new
            term 7 0 1 -> 6
            term 6 6 0 -> 7             # s(p(o,a))
            term 7 6 2 -> 8
            term 6 8 0 -> 9             # s(p(p(o,a),b))
            term 7 9 7 -> 10
            law 0 0 1
            normal 0 10 -> p(s(p(o,a,b)),s(p(o,a)))
            law 0 1 1
            normal 0 10 -> p(s(p(a,b,o)),s(p(a,o)))
            """;

    private static final String WRONG = """
            steps 2 0 0 0 -> throws.IndexOutOfBoundsException
            steps -1 0 0 5 -> throws.IndexOutOfBoundsException
            steps 0 6 0 5 -> throws.IndexOutOfBoundsException
            steps 0 0 -1 5 -> throws.IndexOutOfBoundsException
            steps 0 0 0 5 -> throws.IllegalArgumentException
            steps 0 0 0 -1 -> throws.IllegalArgumentException
            steps 0 0 0 4 -> 0
            meet 2 0 0 0 -> throws.IndexOutOfBoundsException
            meet 0 6 0 4 -> throws.IndexOutOfBoundsException
            meet 0 0 6 4 -> throws.IndexOutOfBoundsException
            meet 0 0 0 4 -> throws.IllegalArgumentException
            meet 0 0 0 -1 -> throws.IllegalArgumentException
            meet 0 0 0 3 -> 0
            reached 2 0 0 -> throws.IndexOutOfBoundsException
            reached 0 6 5 -> throws.IndexOutOfBoundsException
            reached 0 -1 0 -> throws.IndexOutOfBoundsException
            reached 0 0 5 -> throws.IllegalArgumentException
            reached 0 0 -1 -> throws.IllegalArgumentException
            reached 0 0 4 -> 1
            normal 2 0 -> throws.IndexOutOfBoundsException
            normal -1 0 -> throws.IndexOutOfBoundsException
            normal 0 6 -> throws.IndexOutOfBoundsException
            normal 0 -1 -> throws.IndexOutOfBoundsException
            """;
}
