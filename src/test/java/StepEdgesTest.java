/** The boundary cases of promises 22 to 25, of "3. Steps" and of NORMAL texts, a script each. */
public final class StepEdgesTest {
    private StepEdgesTest() {
    }

    public static void main(String[] args) {
        Script.run("StepEdgesTest", STEPS_BOUND, REACHED_BOUND, MEET_BOUND, NUMBERS, BARE_OR_NOT, SIDES_EITHER_WAY,
                SIDES_NO_WAY, LAST_VARIABLE, ALL_VARIABLES, PUT_TWICE, LIKE_CONSTANTS, AT_ONCE, GONE, sizeByS(),
                SIZE_BY_P, SIZE_ON_THE_WAY, NOT_KEPT, SIXTY_IN_ONE, SIXTY_THEN_MORE, AHEAD_OF_FOUND, MEET_SIXTY,
                MEET_SUM, NORMAL_NUMBERS, NORMAL_NO_LAW, NORMAL_EIGHT, NORMAL_ROWS, NORMAL_S_BETWEEN, NORMAL_SIGNS,
                normalDeep());
    }

    private static final String STEPS_BOUND = """
            ## Promise 22: bound 0 to 4; found with just so many STEPS, not with one less
            term 6 0 0 -> 6
            term 6 6 0 -> 7
            term 6 7 0 -> 8
            tell 0 0 1
            tell 0 1 2
            tell 0 2 7
            tell 0 7 8
            tell 0 8 8
            steps 0 0 0 0 -> 0
            steps 0 0 1 0 -> -1
            steps 0 0 1 1 -> 1
            steps 0 0 2 1 -> -1
            steps 0 0 2 2 -> 2
            steps 0 0 7 2 -> -1
            steps 0 0 7 3 -> 3
            steps 0 0 8 3 -> -1
            steps 0 0 8 4 -> 4
            steps 0 8 0 4 -> 4
            steps 0 0 0 4 -> 0
            steps 0 0 0 5 -> A
            steps 0 0 0 -1 -> A
            steps 0 0 0 2147483647 -> A
            steps 0 0 0 -2147483648 -> A
            """;

    private static final String REACHED_BOUND = """
            ## Promise 24: bound 0 to 4; the TERM itself counts
            term 6 1 0 -> 6
            tell 0 6 1                  # s(a) = a
            reached 0 1 0 -> 1
            reached 0 1 1 -> 2
            reached 0 1 2 -> 3
            reached 0 1 3 -> 4
            reached 0 1 4 -> 5
            reached 0 0 4 -> 1
            reached 1 1 4 -> 1
            reached 0 1 5 -> A
            reached 0 1 -1 -> A
            reached 0 1 2147483647 -> A
            """;

    private static final String MEET_BOUND = """
            ## Promise 23: bound 0 to 3, from the one and from the other
            term 6 0 0 -> 6
            term 6 6 0 -> 7
            term 6 7 0 -> 8
            term 6 8 0 -> 9
            tell 0 0 1
            tell 0 1 2
            tell 0 2 7
            tell 0 7 8
            tell 0 8 9
            tell 0 9 9
            meet 0 0 0 0 -> 0
            meet 0 0 1 0 -> -1
            meet 0 0 1 1 -> 1
            meet 0 0 2 1 -> 2
            meet 0 0 7 1 -> -1
            meet 0 0 7 2 -> 3
            meet 0 0 8 2 -> 4
            meet 0 0 9 2 -> -1
            meet 0 0 9 3 -> 5
            meet 0 9 0 3 -> 5
            meet 0 0 0 4 -> A
            meet 0 0 0 -1 -> A
            meet 0 0 0 3 -> 0
            """;

    private static final String NUMBERS = """
            ## Promises 22 to 25: BOOKS 0 and 1, TERMS from the first to the last; these ahead of bound
            term 6 3 0 -> 6
            steps 1 6 6 0 -> 0
            steps 2 0 0 0 -> I
            steps -1 0 0 0 -> I
            steps 0 7 0 0 -> I
            steps 0 0 7 0 -> I
            steps 0 -1 0 0 -> I
            steps 0 0 -1 0 -> I
            steps 2 0 0 5 -> I
            steps 0 0 7 5 -> I
            steps 0 -1 0 -1 -> I
            meet 1 6 6 0 -> 0
            meet 2 0 0 0 -> I
            meet -1 0 0 0 -> I
            meet 0 7 0 0 -> I
            meet 0 0 7 0 -> I
            meet 0 -1 0 4 -> I
            meet 0 0 -1 -1 -> I
            reached 1 6 0 -> 1
            reached 2 0 0 -> I
            reached -1 0 0 -> I
            reached 0 7 0 -> I
            reached 0 -1 5 -> I
            reached 2 0 -1 -> I
            """;

    private static final String BARE_OR_NOT = """
            ## 3. Steps: EQUATIONS with variables and without, TERMS with variables and without
            term 6 3 0 -> 6             # s(x)
            term 6 1 0 -> 7             # s(a)
            tell 0 6 0                  # s(x) = o
            tell 0 1 2                  # a = b
            steps 0 7 0 1 -> 1
            steps 0 6 0 1 -> 1
            steps 0 0 7 4 -> -1
            reached 0 7 4 -> 3          # o, s(b)
            reached 0 6 4 -> 2
            reached 0 0 4 -> 1
            """;

    private static final String SIDES_EITHER_WAY = """
            ## 3. Steps: to a side with the same variables, or fewer, whichever way it is told
            term 7 3 4 -> 6             # p(x,y)
            term 7 4 3 -> 7             # p(y,x)
            term 7 1 2 -> 8             # p(a,b)
            term 7 2 1 -> 9             # p(b,a)
            tell 0 6 7
            steps 0 8 9 1 -> 1
            steps 0 9 8 1 -> 1
            takeBack 0 0
            tell 0 6 4                  # p(x,y) = y
            steps 0 8 2 1 -> 1
            steps 0 2 8 4 -> -1
            takeBack 0 1
            tell 0 3 6                  # x = p(x,y)
            steps 0 8 1 1 -> 1
            steps 0 8 2 4 -> -1
            steps 0 1 8 4 -> -1
            """;

    private static final String SIDES_NO_WAY = """
            ## 3. Steps: no way, if each side has a variable that the other one has not
            term 7 3 4 -> 6             # p(x,y)
            term 7 3 5 -> 7             # p(x,z)
            tell 0 3 4                  # x = y
            tell 0 6 7
            tell 0 5 4
            reached 0 0 4 -> 1
            reached 0 3 4 -> 1
            reached 0 6 4 -> 1
            reached 0 7 4 -> 1
            tell 0 3 3                  # x = x leads to itself
            reached 0 6 4 -> 1
            """;

    private static final String LAST_VARIABLE = """
            ## 3. Steps: z is a variable as x and y are
            term 6 5 0 -> 6             # s(z)
            term 6 1 0 -> 7             # s(a)
            term 6 0 0 -> 8             # s(o)
            term 7 5 5 -> 9             # p(z,z)
            term 7 8 8 -> 10            # p(s(o),s(o))
            term 7 8 0 -> 11            # p(s(o),o)
            tell 0 6 5                  # s(z) = z
            steps 0 7 1 1 -> 1
            steps 0 6 5 1 -> 1
            takeBack 0 0
            tell 0 9 5                  # p(z,z) = z
            steps 0 10 8 1 -> 1
            steps 0 11 8 1 -> -1
            steps 0 8 10 1 -> 1
            steps 0 1 0 2 -> -1
            """;

    private static final String ALL_VARIABLES = """
            ## 3. Steps: three variables, each with some TERM of its own
            term 7 4 5 -> 6             # p(y,z)
            term 7 3 6 -> 7             # p(x,p(y,z))
            term 7 3 4 -> 8
            term 7 8 5 -> 9             # p(p(x,y),z)
            term 6 0 0 -> 10
            term 7 2 10 -> 11           # p(b,s(o))
            term 7 1 11 -> 12           # p(a,p(b,s(o)))
            term 7 1 2 -> 13
            term 7 13 10 -> 14          # p(p(a,b),s(o))
            tell 0 7 9
            steps 0 12 14 1 -> 1
            steps 0 14 12 1 -> 1
            reached 0 12 4 -> 2
            reached 0 11 4 -> 1
            """;

    private static final String PUT_TWICE = """
            ## 3. Steps: the same TERM for a variable at each of its places
            term 7 3 3 -> 6             # p(x,x)
            term 6 1 0 -> 7             # s(a)
            term 6 2 0 -> 8             # s(b)
            term 7 7 7 -> 9
            term 7 7 8 -> 10
            term 7 7 1 -> 11
            tell 0 6 0
            steps 0 9 0 1 -> 1
            steps 0 10 0 4 -> -1
            steps 0 11 0 4 -> -1
            takeBack 0 0
            tell 0 3 6                  # x = p(x,x)
            steps 0 7 9 1 -> 1
            steps 0 9 7 1 -> 1
            steps 0 10 7 1 -> -1
            steps 0 10 7 2 -> -1
            """;

    private static final String LIKE_CONSTANTS = """
            ## 3. Steps: variables of the TERM are like constants
            term 6 1 0 -> 6             # s(a)
            term 6 3 0 -> 7             # s(x)
            term 6 4 0 -> 8             # s(y)
            tell 0 6 2                  # s(a) = b
            steps 0 7 2 4 -> -1         # nothing is PUT for the x of s(x)
            tell 0 7 0                  # s(x) = o
            steps 0 8 0 1 -> 1
            steps 0 7 0 1 -> 1
            takeBack 0 1
            tell 0 3 6                  # x = s(a)
            steps 0 4 6 1 -> 1          # y as a part
            reached 0 4 1 -> 2
            """;

    private static final String AT_ONCE = """
            ## 3. Steps: PUT at once, though the TERMS have the same variables; each part alone
            term 7 3 4 -> 6             # p(x,y)
            term 7 4 3 -> 7             # p(y,x)
            term 7 7 3 -> 8             # p(p(y,x),x)
            term 7 3 7 -> 9             # p(x,p(y,x))
            term 7 6 3 -> 10            # p(p(x,y),x)
            tell 0 6 7
            steps 0 7 6 1 -> 1
            steps 0 8 9 1 -> 1          # all of it
            steps 0 8 10 1 -> 1         # its left part
            reached 0 8 1 -> 3
            reached 0 8 4 -> 4
            reached 0 7 4 -> 2
            """;

    private static final String GONE = """
            ## 3. Steps: not by an EQUATION that is GONE, nor of the other BOOK, nor by a LAW
            term 7 1 2 -> 6
            term 7 2 1 -> 7
            tell 0 1 2
            tell 1 0 1
            takeBack 0 0
            law 0 1 1
            steps 0 1 2 4 -> -1
            steps 0 0 1 4 -> -1
            steps 0 6 7 4 -> -1
            steps 1 0 1 1 -> 1
            reached 0 6 4 -> 1
            meet 0 1 2 3 -> -1
            """;

    private static String sizeByS() {
        return "## 3. Steps: SIZE 15 is come to, 16 is not: by s\n" + TermEdgesTest.row(1, 6, 14) + """
            term 6 3 0 -> 20
            tell 0 3 20                 # x = s(x)
            steps 0 18 19 1 -> 1
            steps 0 17 19 1 -> -1
            steps 0 17 19 2 -> 2
            steps 0 1 9 4 -> 4
            reached 0 19 1 -> 2         # s^13(a) alone
            reached 0 18 1 -> 3
            reached 0 18 4 -> 6         # SIZES 15 and 13 to 10
            """;
    }

    private static final String SIZE_BY_P = """
            ## 3. Steps: SIZE 15 is come to, 16 is not: by p
            term 7 0 0 -> 6             # 3
            term 7 6 6 -> 7             # 7
            term 7 7 7 -> 8             # 15
            term 7 7 6 -> 9             # 11
            term 7 9 0 -> 10            # 13
            term 6 10 0 -> 11           # 14
            term 7 1 1 -> 12
            tell 0 0 12                 # o = p(a,a): 2 more
            reached 0 8 1 -> 1
            reached 0 11 1 -> 1         # 14: 16 were too large
            reached 0 10 1 -> 8         # 13: at each of its seven o
            """;

    private static final String SIZE_ON_THE_WAY = """
            ## 3. Steps: not by a way on which something were too large
            term 7 0 0 -> 6
            term 7 6 6 -> 7
            term 7 7 7 -> 8             # 15
            term 7 1 1 -> 9
            tell 0 0 9                  # o = p(a,a)
            tell 0 9 1                  # p(a,a) = a
            tell 0 7 2                  # p(p(o,o),p(o,o)) = b: 6 less
            reached 0 8 1 -> 3          # p(b,7), p(7,b)
            reached 0 8 2 -> 12         # p(b,b), and from each of these one of four o as p(a,a)
            """;

    private static final String NOT_KEPT = """
            ## 3. Steps: what is come to need not be kept, and is not kept by asking
            term 6 1 0 -> 6
            term 6 6 0 -> 7
            tell 0 1 2
            reached 0 7 1 -> 2          # s(s(b))
            meet 0 7 6 3 -> -1
            steps 0 7 6 4 -> -1
            house 0 -> 8
            text 8 -> I
            term 6 2 0 -> 8
            term 6 8 0 -> 9
            steps 0 7 9 1 -> 1
            """;

    private static final String SIXTY_IN_ONE = """
            ## Promises 22 and 24: 59, 60 and 61 within 1 STEP
            term 7 0 0 -> 6
            term 7 6 6 -> 7
            term 7 7 7 -> 8             # SIZE 15: 8, 4, 2 parts and all of it
            term 6 0 0 -> 9
            term 6 1 0 -> 10
            term 6 2 0 -> 11
            term 6 9 0 -> 12
            term 6 10 0 -> 13
            tell 0 3 1                  # x = a: each of 15 parts
            reached 0 8 1 -> 16
            tell 0 3 2                  # x = b: 15 more
            reached 0 8 1 -> 31
            tell 0 3 0                  # x = o: 7 parts, the 8 others are o
            reached 0 8 1 -> 38
            tell 0 3 9                  # x = s(o), s(a), s(b): 7 parts, for the 8 others it were too large
            tell 0 3 10
            tell 0 3 11
            reached 0 8 1 -> 59
            steps 0 8 1 1 -> 1
            tell 0 8 12                 # all of it = s(s(o)): one more
            reached 0 8 1 -> 60
            steps 0 8 12 1 -> 1
            steps 0 8 3 1 -> -1
            tell 0 8 13                 # s(s(a)): the 61st
            reached 0 8 1 -> -9
            steps 0 8 13 1 -> -9
            steps 0 8 12 1 -> -9
            steps 0 8 1 1 -> -9         # though it were among the first
            steps 0 8 3 4 -> -9
            reached 0 8 0 -> 1
            steps 0 8 8 4 -> 0          # within 0 STEPS there is 1
            steps 0 8 1 0 -> -1
            meet 0 8 8 0 -> 0
            meet 0 8 8 1 -> -9
            meet 0 8 1 1 -> -9
            meet 0 1 8 1 -> -9
            meet 0 1 2 1 -> 1
            steps 0 0 1 5 -> A
            takeBack 0 7
            reached 0 8 1 -> 60
            """;

    private static final String SIXTY_THEN_MORE = """
            ## Promise 22: 60 within 3 STEPS are no more than 60
            term 7 2 3 -> 6             # p(b,x)
            term 7 2 0 -> 7             # p(b,o)
            term 7 0 0 -> 8             # p(o,o)
            term 7 8 7 -> 9             # p(p(o,o),p(b,o)): 3 STEPS
            term 7 8 8 -> 10            # p(p(o,o),p(o,o)): 4 STEPS
            tell 0 2 0                  # b = o
            tell 0 7 4                  # p(b,o) = y: from each part
            reached 0 6 3 -> 60
            steps 0 6 9 2 -> -1
            steps 0 6 9 3 -> 3
            steps 0 6 9 4 -> 3          # ahead of 4
            steps 0 6 10 3 -> -1
            steps 0 6 10 4 -> -9        # more than 60 ahead of that it is among them
            reached 0 6 4 -> -9
            """;

    private static final String AHEAD_OF_FOUND = """
            ## Promise 22: exceptions ahead of -9
            term 7 2 3 -> 6
            term 7 2 0 -> 7
            tell 0 2 0
            tell 0 7 4
            steps 0 6 1 4 -> -9
            steps 0 6 1 5 -> A
            steps 0 6 8 4 -> I
            steps 2 6 1 4 -> I
            reached 0 6 4 -> -9
            reached 0 6 5 -> A
            reached 2 6 4 -> I
            """;

    private static final String MEET_SIXTY = """
            ## Promise 23: 60 within bound from the one or the other, and more
            term 7 2 3 -> 6             # p(b,x): 60 within 3
            term 7 2 0 -> 7
            term 6 6 0 -> 8             # s(p(b,x)): more within 3
            tell 0 2 0
            tell 0 7 4
            reached 0 6 3 -> 60
            reached 0 6 2 -> 18
            reached 0 8 2 -> 23         # s of these 18, p(b,o) for all of it, and 4 from there
            reached 0 8 3 -> -9
            meet 0 6 6 3 -> 0
            meet 0 6 8 3 -> -9
            meet 0 8 6 3 -> -9
            meet 0 8 6 2 -> 2           # both to p(b,o)
            meet 0 6 1 3 -> 2
            meet 0 6 1 4 -> A
            meet 0 8 9 3 -> I
            meet 2 8 6 3 -> I
            """;

    private static final String MEET_SUM = """
            ## Promise 23: the smallest i + j, of ways with other numbers
            term 6 0 0 -> 6
            term 7 0 3 -> 7             # p(o,x)
            term 7 0 1 -> 8             # p(o,a)
            tell 0 7 6                  # p(o,x) = s(o), not the other way
            tell 0 6 2                  # s(o) = b
            meet 0 8 7 3 -> 2           # s(o), 1 + 1
            meet 0 8 2 3 -> 2           # 2 + 0 or 1 + 1
            meet 0 8 2 1 -> 2
            meet 0 8 6 3 -> 1
            meet 0 6 8 3 -> 1
            meet 0 8 8 3 -> 0
            meet 0 8 0 3 -> -1
            steps 0 8 7 4 -> -1
            """;

    private static final String NORMAL_NUMBERS = """
            ## Promise 25: BOOKS 0 and 1, TERMS from the first to the last
            term 7 1 0 -> 6
            normal 0 0 -> o
            normal 0 5 -> z
            normal 0 6 -> p(a,o)
            normal 1 6 -> p(a,o)
            normal 0 7 -> I
            normal 0 -1 -> I
            normal 2 0 -> I
            normal -1 0 -> I
            law 0 1 0
            normal 0 6 -> p(a,o)
            normal 1 6 -> p(a,o)
            """;

    private static final String NORMAL_NO_LAW = """
            ## 2. Books: neither LAW holds at first; each alone; LAWS of the BOOK alone
            term 7 2 1 -> 6
            term 7 6 0 -> 7             # p(p(b,a),o)
            normal 0 7 -> p(p(b,a),o)
            law 0 1 0
            normal 0 7 -> p(o,p(a,b))
            normal 1 7 -> p(p(b,a),o)
            law 0 0 1
            normal 0 7 -> p(b,a,o)
            law 0 1 1
            normal 0 7 -> p(a,b,o)
            law 1 0 1
            normal 1 7 -> p(b,a,o)
            law 0 0 0
            normal 0 7 -> p(p(b,a),o)
            """;

    private static final String NORMAL_EIGHT = """
            ## 2. Books: GROUPS of eight parts, as many as SIZE 15 has
            term 7 2 1 -> 6             # p(b,a)
            term 7 0 3 -> 7             # p(o,x)
            term 7 5 4 -> 8             # p(z,y)
            term 7 1 2 -> 9             # p(a,b)
            term 7 6 7 -> 10
            term 7 8 9 -> 11
            term 7 10 11 -> 12
            ofTerm 12 1 -> 15
            normal 0 12 -> p(p(p(b,a),p(o,x)),p(p(z,y),p(a,b)))
            law 0 0 1
            normal 0 12 -> p(b,a,o,x,z,y,a,b)
            law 0 1 1
            normal 0 12 -> p(a,a,b,b,o,x,y,z)
            law 0 1 0
            normal 0 12 -> p(p(p(a,b),p(o,x)),p(p(a,b),p(y,z)))
            """;

    private static final String NORMAL_ROWS = """
            ## 2. Books: GROUPS "and so on": eight parts, all to the left or all to the right
            term 7 2 1 -> 6
            term 7 6 0 -> 7
            term 7 7 5 -> 8
            term 7 8 3 -> 9
            term 7 9 4 -> 10
            term 7 10 2 -> 11
            term 7 11 1 -> 12
            term 7 1 2 -> 13
            term 7 0 13 -> 14
            term 7 5 14 -> 15
            term 7 3 15 -> 16
            term 7 4 16 -> 17
            term 7 2 17 -> 18
            term 7 1 18 -> 19
            law 0 0 1
            normal 0 12 -> p(b,a,o,z,x,y,b,a)
            normal 0 19 -> p(a,b,y,x,z,o,a,b)
            law 0 1 1
            normal 0 12 -> p(a,a,b,b,o,x,y,z)
            normal 0 19 -> p(a,a,b,b,o,x,y,z)
            law 1 0 1
            say 0 12 19 13 0 0
            ofLine 0 0 0 -> 0           # LAWS of BOOK 0
            law 0 0 1
            ofLine 0 0 0 -> 3
            """;

    private static final String NORMAL_S_BETWEEN = """
            ## 2. Books: a p in an s is not taken over, the p around it is
            term 7 2 1 -> 6             # p(b,a)
            term 6 6 0 -> 7             # s(p(b,a))
            term 7 7 0 -> 8             # p(s(p(b,a)),o)
            term 6 8 0 -> 9
            term 7 9 6 -> 10            # p(s(p(s(p(b,a)),o)),p(b,a))
            law 0 0 1
            normal 0 8 -> p(s(p(b,a)),o)
            normal 0 10 -> p(s(p(s(p(b,a)),o)),b,a)
            law 0 1 1
            normal 0 10 -> p(a,b,s(p(o,s(p(a,b)))))
            law 0 1 0
            normal 0 10 -> p(p(a,b),s(p(o,s(p(a,b)))))
            """;

    private static final String NORMAL_SIGNS = """
            ## Description: texts sign by sign by the codes: "(" ")" "," ahead of letters, a b o p s x y z
            term 6 0 0 -> 6             # s(o)
            term 6 3 0 -> 7             # s(x)
            term 7 5 0 -> 8             # p(z,o)
            term 6 6 0 -> 9             # s(s(o))
            term 7 3 2 -> 10            # p(x,b)
            term 7 10 1 -> 11           # p(p(x,b),a)
            term 7 6 0 -> 12            # p(s(o),o)
            term 7 7 9 -> 13            # p(s(x),s(s(o)))
            term 7 8 0 -> 14            # p(p(z,o),o)
            term 7 9 10 -> 15           # p(s(s(o)),p(x,b))
            law 0 1 0
            normal 0 11 -> p(a,p(b,x))
            normal 0 12 -> p(o,s(o))
            normal 0 13 -> p(s(s(o)),s(x))
            normal 0 14 -> p(o,p(o,z))
            normal 0 15 -> p(p(b,x),s(s(o)))
            new
            term 7 1 2 -> 6
            term 7 6 0 -> 7
            term 6 7 0 -> 8             # s(p(p(a,b),o))
            term 6 6 0 -> 9             # s(p(a,b))
            term 7 8 9 -> 10
            law 0 1 1
            normal 0 10 -> p(s(p(a,b)),s(p(a,b,o)))
            """;

    private static String normalDeep() {
        return "## Promise 25: the longest text: 14 s\n" + TermEdgesTest.row(4, 6, 14) + """
            law 0 1 1
            normal 0 19 -> s(s(s(s(s(s(s(s(s(s(s(s(s(s(y))))))))))))))
            normal 0 18 -> s(s(s(s(s(s(s(s(s(s(s(s(s(y)))))))))))))
            """;
    }
}
