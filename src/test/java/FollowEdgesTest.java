/** The boundary cases of promises 14 to 21 and of "2. Books" as to what follows, a script each. */
public final class FollowEdgesTest {
    private FollowEdgesTest() {
    }

    public static void main(String[] args) {
        Script.run("FollowEdgesTest", LIKE_ITSELF, LIKE_NUMBERS, LIKE_BARE, LIKE_TURNED, LIKE_BOTH_PARTS, LIKE_SIGNS,
                LIKE_GONE, fullWithoutEquations(), fullOfOneClass(), KEYS, CLASS_SMALLEST, CLASS_NUMBERS,
                ROUND_FIRST, roundsOfS(), roundsBeyond(), PATH_NONE, PATH_ROUND_AHEAD, PATH_NOT_THE_SAME_ROUND,
                PATH_LATER, PATH_DEAD_END, PATH_AMONG_SEVERAL, PATH_BY_PARTS_SEVERAL, row14(), WHY_NONE,
                WHY_GREATEST_FIRST, WHY_NOT_BARE, WITHOUT_NUMBERS, WITHOUT_GONE, WITHOUT_LAST, CLASH_WHY,
                COMMON);
    }

    private static final String LIKE_ITSELF = """
            ## 2. Books: each TERM and itself are LIKE in the round 0, by no EQUATION
            term 6 0 0 -> 6
            like 0 0 0 -> true
            like 1 6 6 -> true
            round 0 6 6 -> 0
            round 1 2 2 -> 0
            path 0 6 6 -> 6
            path 0 0 0 -> 0
            why 0 6 6 ->
            classOf 0 6 -> 6
            like 0 0 6 -> false
            round 0 6 0 -> -1
            path 0 6 0 -> -
            why 0 6 0 -> -
            """;

    private static final String LIKE_NUMBERS = """
            ## Promises 14 to 18: BOOKS 0 and 1, TERMS from the first to the last
            term 6 0 0 -> 6
            like 1 0 6 -> false
            like 2 0 0 -> I
            like -1 0 0 -> I
            like 0 7 0 -> I
            like 0 0 7 -> I
            like 0 -1 0 -> I
            like 0 0 -1 -> I
            round 1 6 6 -> 0
            round 2 0 0 -> I
            round -1 0 0 -> I
            round 0 7 0 -> I
            round 0 0 -1 -> I
            path 1 6 6 -> 6
            path 2 0 0 -> I
            path -1 0 0 -> I
            path 0 0 7 -> I
            path 0 -1 0 -> I
            why 1 6 6 ->
            why 2 0 0 -> I
            why -1 0 0 -> I
            why 0 7 7 -> I
            why 0 0 -1 -> I
            """;

    private static final String LIKE_BARE = """
            ## Promises 14 to 19: BARE TERMS alone, the one and the other; no such TERM ahead of that
            term 7 0 3 -> 6             # p(o,x)
            tell 0 6 6
            like 0 6 6 -> A
            like 0 6 0 -> A
            like 0 0 6 -> A
            like 0 7 6 -> I
            like 0 6 7 -> I
            classOf 0 6 -> A
            classOf 0 7 -> I
            classOf 2 6 -> I
            round 0 6 6 -> A
            round 0 6 0 -> A
            round 0 0 5 -> A
            round 0 7 6 -> I
            round 0 6 7 -> I
            path 0 6 6 -> A
            path 0 6 0 -> A
            path 0 0 4 -> A
            path 0 6 7 -> I
            why 0 6 6 -> A
            why 0 3 0 -> A
            why 0 0 6 -> A
            why 0 7 3 -> I
            without 0 0 6 6 -> A
            without 0 0 6 0 -> A
            without 0 0 0 6 -> A
            without 0 0 6 7 -> I
            without 0 1 6 6 -> I
            """;

    private static final String LIKE_TURNED = """
            ## 2. Books: in the round 0 what follows by turning round and by going on
            term 6 0 0 -> 6
            tell 0 2 1                  # b = a
            tell 0 2 6                  # b = s(o)
            like 0 1 2 -> true
            like 0 2 1 -> true
            like 0 1 6 -> true
            like 0 6 1 -> true
            round 0 1 6 -> 0
            round 0 6 1 -> 0
            like 0 1 0 -> false
            """;

    private static final String LIKE_BOTH_PARTS = """
            ## 2. Books: both parts LIKE, left with left and right with right; one of them is not enough
            term 7 1 0 -> 6             # p(a,o)
            term 7 2 0 -> 7             # p(b,o)
            term 7 2 1 -> 8             # p(b,a)
            term 7 0 1 -> 9             # p(o,a)
            term 7 0 2 -> 10            # p(o,b)
            term 7 1 2 -> 11            # p(a,b)
            tell 0 1 2
            like 0 6 7 -> true          # left ones LIKE, right ones the same
            like 0 9 10 -> true         # left ones the same, right ones LIKE
            like 0 8 11 -> true         # both LIKE, not the same
            like 0 6 8 -> false         # the left ones alone
            like 0 9 8 -> false         # the right ones alone
            like 0 6 9 -> false         # crosswise
            like 0 7 10 -> false
            ofBook 0 6 -> 5
            """;

    private static final String LIKE_SIGNS = """
            ## 2. Books: of other SIGNS two are not LIKE by their parts, nor are their parts by them
            term 6 1 0 -> 6             # s(a)
            term 7 1 1 -> 7             # p(a,a)
            term 7 1 2 -> 8             # p(a,b)
            tell 0 1 2
            like 0 6 7 -> false
            like 0 7 8 -> true
            like 0 6 1 -> false
            new
            term 6 1 0 -> 6
            term 6 2 0 -> 7
            tell 0 6 7                  # s(a) = s(b)
            like 0 1 2 -> false
            """;

    private static final String LIKE_GONE = """
            ## 2. Books: not by an EQUATION that is GONE, of the other BOOK, or with variables
            term 6 3 0 -> 6
            tell 0 1 2
            tell 1 0 1
            tell 0 3 0
            tell 0 0 3
            tell 0 6 6
            like 0 1 2 -> true
            like 0 0 1 -> false
            takeBack 0 0
            like 0 1 2 -> false
            like 1 0 1 -> true
            like 1 1 2 -> false
            ofBook 0 6 -> 3
            tell 0 2 1
            like 0 1 2 -> true
            round 0 1 2 -> 0
            """;

    /** 64 TERMS, BARE but for x, y, z; 63 is p of o and 62. */
    private static String full() {
        StringBuilder text = new StringBuilder("term 6 0 0 -> 6\nterm 6 1 0 -> 7\nterm 6 2 0 -> 8\n");
        int[] of = {0, 1, 2, 6, 7, 8};
        for (int k = 0; k < 36; k++) {
            text.append("term 7 ").append(of[k / 6]).append(' ').append(of[k % 6]);
            text.append(" -> ").append(9 + k).append('\n');
        }
        for (int k = 45; k < 63; k++) {
            text.append("term 6 ").append(k - 36).append(" 0 -> ").append(k).append('\n');
        }
        return text.append("term 7 0 62 -> 63\nhouse 0 -> 64\n").toString();
    }

    private static String fullWithoutEquations() {
        return "## Promise 13: 64 TERMS without an EQUATION: each BARE one is a class of its own\n" + full() + """
            house 1 -> 61
            ofBook 0 6 -> 61
            common -> 61
            classOf 0 63 -> 63
            like 0 63 7 -> false        # p(o,62), s(a)
            like 0 62 63 -> false
            round 0 0 63 -> -1
            """;
    }

    private static String fullOfOneClass() {
        return "## Promises 13 to 16: 64 TERMS in as few classes as can be\n" + full() + """
            tell 0 0 1
            tell 0 1 2
            tell 0 6 2
            tell 0 9 2
            ofBook 0 6 -> 1
            classOf 0 63 -> 0
            classOf 0 62 -> 0
            like 0 63 8 -> true
            round 0 8 0 -> 1            # s(b)
            round 0 26 9 -> 2           # p(b,s(b))
            round 0 62 0 -> 3           # s of that
            round 0 62 63 -> 4          # p of o and that
            common -> 61
            """;
    }

    private static final String KEYS = """
            ## 2. Books: parts that are other TERMS are not LIKE, whatever their numbers are
            term 7 0 1 -> 6             # p(o,a)
            term 7 1 0 -> 7             # p(a,o)
            term 6 1 0 -> 8             # s(a)
            term 6 2 0 -> 9             # s(b)
            term 7 0 0 -> 10
            term 7 1 1 -> 11
            term 7 2 0 -> 12
            ofBook 0 6 -> 10
            """;

    private static final String CLASS_SMALLEST = """
            ## Promise 15: the smallest TERM that is LIKE it, be it itself, the first or the last one told
            term 6 1 0 -> 6
            term 6 2 0 -> 7
            tell 0 7 6
            classOf 0 6 -> 6
            classOf 0 7 -> 6
            tell 0 2 7
            classOf 0 2 -> 2
            classOf 0 6 -> 2
            tell 0 6 0
            classOf 0 7 -> 0
            classOf 0 2 -> 0
            classOf 0 0 -> 0
            classOf 0 1 -> 1
            """;

    private static final String CLASS_NUMBERS = """
            ## Promise 15: BOOKS 0 and 1, TERMS from the first to the last
            term 6 1 0 -> 6
            classOf 0 0 -> 0
            classOf 1 6 -> 6
            classOf 0 7 -> I
            classOf 0 -1 -> I
            classOf 2 0 -> I
            classOf -1 0 -> I
            classOf 0 3 -> A
            classOf 0 5 -> A
            """;

    private static final String ROUND_FIRST = """
            ## 2. Books: ROUND is the first in which they are LIKE
            term 6 1 0 -> 6             # s(a)
            term 6 2 0 -> 7             # s(b)
            term 6 6 0 -> 8
            term 6 7 0 -> 9
            tell 0 1 2
            round 0 1 2 -> 0
            round 0 6 7 -> 1
            round 0 8 9 -> 2
            tell 0 8 9                  # told, too
            round 0 8 9 -> 0
            round 0 6 7 -> 1
            tell 0 6 0
            tell 0 0 7                  # in the round 0 by going on
            round 0 6 7 -> 0
            takeBack 0 0
            round 0 1 2 -> -1
            """;

    private static String roundsOfS() {
        return "## 2. Books: rounds as deep as SIZE 15 goes\n"
                + TermEdgesTest.row(1, 6, 14) + TermEdgesTest.row(2, 20, 14) + """
            round 0 19 33 -> -1
            tell 0 1 2
            round 0 6 20 -> 1
            round 0 18 32 -> 13
            round 0 19 33 -> 14
            path 0 19 33 -> 19 33
            why 0 19 33 -> 0
            classOf 0 33 -> 19
            round 0 19 32 -> -1
            ofBook 0 6 -> 16            # o; a, b; 14 of two
            """;
    }

    private static String roundsBeyond() {
        return "## 2. Books: more rounds than SIZE, where EQUATIONS lead to large TERMS on the way\n"
                + TermEdgesTest.row(1, 6, 13) + TermEdgesTest.row(2, 19, 13) + "term 7 0 0 -> 32\nterm 7 0 1 -> 33\n"
                + TermEdgesTest.row(32, 34, 12) + TermEdgesTest.row(33, 46, 12) + """
            tell 0 1 2
            tell 0 32 18
            tell 0 33 31
            round 0 18 31 -> 13
            round 0 32 33 -> 13
            path 0 32 33 -> 32 18 31 33
            round 0 34 46 -> 14
            round 0 45 57 -> 25
            path 0 45 57 -> 45 57
            why 0 45 57 -> 0 1 2
            """;
    }

    private static final String PATH_NONE = """
            ## Promise 17: both ends are told; the TERM alone from it to itself; "-" without
            term 6 1 0 -> 6
            term 6 2 0 -> 7
            path 0 6 7 -> -
            path 0 6 6 -> 6
            tell 0 1 2
            path 0 6 7 -> 6 7
            path 0 7 6 -> 7 6
            path 0 1 2 -> 1 2
            path 0 2 1 -> 2 1
            path 0 1 1 -> 1
            path 0 1 6 -> -
            path 1 6 7 -> -
            """;

    private static final String PATH_ROUND_AHEAD = """
            ## 2. Books: neighbours by parts have parts that are LIKE in the round ahead, not in the same one
            term 6 1 0 -> 6             # s(a)
            term 6 2 0 -> 7             # s(b)
            term 6 6 0 -> 8             # s(s(a))
            term 6 7 0 -> 9             # s(s(b))
            tell 0 1 2
            tell 0 8 6                  # s(s(a)) = s(a)
            tell 0 9 7                  # s(s(b)) = s(b)
            round 0 8 9 -> 1
            path 0 8 9 -> 8 6 7 9       # s(a), s(b) are LIKE in the round 1 alone
            path 0 8 7 -> 8 6 7
            path 0 9 8 -> 9 7 6 8
            why 0 8 9 -> 0
            find 0 8 9 -> 7
            line 0 3 -> s(s(a)) = s(b): 3 0 2
            line 0 6 -> s(s(a)) = s(s(b)): 3 3 5
            takeBack 0 2
            round 0 8 9 -> 2
            path 0 8 9 -> 8 9           # now by ROUND 2
            """;

    private static final String PATH_NOT_THE_SAME_ROUND = """
            ## 2. Books: parts stay neighbours in the round in which their class grows
            term 6 1 0 -> 6             # s(a)
            term 6 2 0 -> 7             # s(b)
            tell 0 1 2
            tell 0 6 1                  # s(a) = a
            tell 0 7 0                  # s(b) = o
            round 0 6 7 -> 1
            path 0 6 7 -> 6 7
            path 0 7 6 -> 7 6
            path 0 1 0 -> 1 6 7 0
            path 0 0 2 -> 0 7 6 1 2
            ofBook 0 6 -> 1
            """;

    private static final String PATH_LATER = """
            ## 2. Books: of several the one with the smaller TERM at the first place at which they differ
            term 6 0 0 -> 6
            term 6 6 0 -> 7
            tell 0 1 6
            tell 0 6 7
            tell 0 2 7
            tell 0 1 2
            tell 0 0 1
            path 0 0 7 -> 0 1 2 7       # not 0 1 6 7
            path 0 7 0 -> 7 2 1 0
            takeBack 0 3
            path 0 0 7 -> 0 1 6 7
            """;

    private static final String PATH_DEAD_END = """
            ## 2. Books: the shortest row, though a smaller TERM is next to it
            term 6 0 0 -> 6
            term 6 6 0 -> 7
            tell 0 0 2
            tell 0 0 1
            tell 0 1 6
            tell 0 6 7
            tell 0 2 7
            path 0 2 7 -> 2 7
            path 0 1 7 -> 1 6 7         # not by o and b: these are more
            path 0 1 2 -> 1 0 2
            path 0 6 2 -> 6 7 2
            """;

    private static final String PATH_AMONG_SEVERAL = """
            ## 2. Books: two sides either way, of whichever EQUATION
            tell 0 1 0
            tell 0 0 1
            tell 0 2 1
            path 0 0 1 -> 0 1
            path 0 0 2 -> 0 1 2
            path 0 2 0 -> 2 1 0
            takeBack 0 0
            path 0 2 0 -> 2 1 0
            takeBack 0 1
            path 0 2 0 -> -
            """;

    private static final String PATH_BY_PARTS_SEVERAL = """
            ## 2. Books: with r above 0 neighbours by parts are as good as by EQUATIONS
            term 6 1 0 -> 6             # s(a)
            term 6 2 0 -> 7             # s(b)
            term 6 0 0 -> 8             # s(o)
            tell 0 1 2
            tell 0 2 0
            path 0 1 0 -> 1 2 0
            path 0 6 8 -> 6 8           # a and o are LIKE in the round 0: not by s(b)
            round 0 6 8 -> 1
            """;

    /** 15 TERMS in a row by 14 EQUATIONS, of which no two are LIKE by their parts. */
    private static String row14() {
        StringBuilder text = new StringBuilder("## Promises 17 to 19: a row of 14 EQUATIONS, all of them needed\n");
        for (int k = 0; k < 9; k++) {
            text.append("term 7 ").append(k / 3).append(' ').append(k % 3).append(" -> ").append(6 + k).append('\n');
        }
        text.append("term 6 0 0 -> 15\nterm 6 1 0 -> 16\nterm 6 2 0 -> 17\n");
        text.append("term 7 15 0 -> 18\nterm 7 15 1 -> 19\nterm 7 15 2 -> 20\n");
        for (int k = 6; k < 20; k++) {
            text.append("tell 0 ").append(k).append(' ').append(k + 1).append(" -> ").append(k - 6).append('\n');
        }
        text.append("path 0 6 20 -> 6 7 8 9 10 11 12 13 14 15 16 17 18 19 20\n");
        text.append("why 0 6 20 -> 0 1 2 3 4 5 6 7 8 9 10 11 12 13\n");
        text.append("why 0 19 20 -> 13\nwhy 0 6 7 -> 0\nwhy 0 20 20 ->\n");
        for (int k = 0; k < 14; k++) {
            text.append("without 0 ").append(k).append(" 6 20 -> false\n");
        }
        text.append("without 0 13 6 19 -> true\nwithout 0 0 7 20 -> true\nwithout 0 14 6 6 -> I\n");
        text.append("round 0 6 20 -> 0\nclassOf 0 20 -> 6\nunlike 0 20 6\n");
        text.append("clashWhy 0 -> 0 1 2 3 4 5 6 7 8 9 10 11 12 13\n");
        text.append("find 0 6 18 -> 23\nfind 1 6 19 -> -9\nhouse 2 -> 23\n");
        return text.toString();
    }

    private static final String WHY_NONE = """
            ## Promise 18: "" by no EQUATION, "-" if they are not LIKE
            why 0 0 0 ->
            why 0 0 1 -> -
            tell 0 0 1
            why 0 0 0 ->
            why 0 1 1 ->
            why 0 0 1 -> 0
            why 0 0 2 -> -
            takeBack 0 0
            why 0 0 1 -> -
            """;

    private static final String WHY_GREATEST_FIRST = """
            ## 2. Books: from the greatest number to the least each is left out, if they are LIKE without it
            tell 0 0 1
            tell 0 0 1
            tell 0 0 1
            why 0 0 1 -> 0
            takeBack 0 0
            why 0 0 1 -> 1
            tell 0 1 2                  # 3
            tell 0 0 2                  # 4
            why 0 0 1 -> 1
            why 0 0 2 -> 1 3            # 4 goes first, then 2; then 3 and 1 are needed
            takeBack 0 3
            why 0 0 2 -> 4
            why 0 1 2 -> 1 4
            """;

    private static final String WHY_NOT_BARE = """
            ## 2. Books: WHY has BARE EQUATIONS that are not GONE, and no other
            tell 0 3 3
            tell 0 1 2
            tell 0 1 3
            tell 0 3 2
            tell 0 2 0
            why 0 1 2 -> 1
            why 0 1 0 -> 1 4
            takeBack 0 1
            why 0 1 0 -> -
            why 0 2 0 -> 4
            """;

    private static final String WITHOUT_NUMBERS = """
            ## Promise 19: BOOKS, EQUATIONS of that BOOK, TERMS: from the first to the last, and none beside
            term 6 0 0 -> 6
            tell 0 1 2
            tell 0 0 6
            tell 1 0 0
            without 0 0 0 6 -> true
            without 0 1 0 6 -> false
            without 0 2 0 0 -> I
            without 0 -1 0 0 -> I
            without 1 0 6 6 -> true
            without 1 1 0 0 -> I
            without 2 0 0 0 -> I
            without -1 0 0 0 -> I
            without 0 0 7 0 -> I
            without 0 0 0 7 -> I
            without 0 0 -1 0 -> I
            without 0 0 0 -1 -> I
            without 0 0 3 0 -> A
            without 0 0 0 3 -> A
            without 0 2 3 0 -> I
            without 0 14 0 0 -> I
            without 0 -2147483648 0 0 -> I
            """;

    private static final String WITHOUT_GONE = """
            ## Promise 19: if that one were GONE: one that is GONE, or not BARE, makes no difference
            tell 0 1 2
            tell 0 3 3
            tell 0 1 2
            takeBack 0 0
            without 0 0 1 2 -> true
            without 0 1 1 2 -> true
            without 0 2 1 2 -> false
            without 0 2 1 1 -> true
            like 0 1 2 -> true          # nothing is taken back by asking
            ofBook 0 1 -> 2
            """;

    private static final String WITHOUT_LAST = """
            ## Promise 19: two of the same: the one without the other; by parts as well
            term 6 1 0 -> 6
            term 6 2 0 -> 7
            times 13 tell 0 0 0 -> 12
            tell 0 1 2 -> 13
            without 0 13 1 2 -> false
            without 0 13 6 7 -> false
            without 0 12 6 7 -> true
            without 0 0 6 7 -> true
            without 0 13 0 0 -> true
            """;

    private static final String CLASH_WHY = """
            ## Promise 20: WHY of the first CLASH; "" if its two are the same; "-" without
            clashWhy 0 -> -
            clashWhy 2 -> I
            clashWhy -1 -> I
            unlike 0 0 1
            clashWhy 0 -> -
            tell 0 2 1
            unlike 0 1 2
            clashWhy 0 -> 0
            unlike 0 2 2
            clashWhy 0 -> 0
            tell 0 0 2
            clashWhy 0 -> 0 1
            takeBack 0 0
            clashWhy 0 ->
            takeBack 0 1
            clashWhy 0 ->
            clashWhy 1 -> -
            """;

    private static final String COMMON = """
            ## Promise 21: LIKE in both BOOKS; from as many as BARE TERMS down to one
            common -> 3
            term 6 5 0 -> 6
            common -> 3
            tell 0 0 1
            tell 0 1 2
            common -> 3
            tell 1 0 2
            common -> 2
            tell 1 2 1
            common -> 1
            takeBack 1 0
            common -> 2
            takeBack 0 0
            common -> 2
            takeBack 0 1
            common -> 3
            """;
}
