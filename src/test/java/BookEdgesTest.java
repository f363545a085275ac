/** The boundary cases of promises 6 to 13 and of "2. Books" as to what is told, a script each. */
public final class BookEdgesTest {
    private BookEdgesTest() {
    }

    public static void main(String[] args) {
        Script.run("BookEdgesTest", TELL_FULL, TELL_FULL_GONE, TELL_NUMBERS, TELL_ANEW, UNLIKE_FULL, UNLIKE_NUMBERS,
                UNLIKE_BARE, UNLIKE_SAME, TAKE_BACK_NUMBERS, TAKE_BACK_GONE, takeBackAll(), LAW, LAW_NUMBERS,
                LEVEL_FULL, LEVEL_NUMBERS, BACK_NONE, BACK_EQUATIONS, BACK_GONE, BACK_UNLIKES, BACK_LAWS,
                BACK_FIVE, BACK_LAST, BACK_NOTED_ANEW, BACK_REST, BACK_FULL, EQUATION_NUMBERS, equationLast(),
                OF_BOOK_WHAT, OF_BOOK_COUNTS, OF_BOOK_BARE, OF_BOOK_CLASSES, OF_BOOK_TABLES, OF_BOOK_CLASH,
                FIRST_CLASH_LAST);
    }

    private static final String TELL_FULL = """
            ## Promise 6: the 14th EQUATION is told, the 15th is not; each BOOK has its own
            times 13 tell 0 1 2 -> 12
            tell 0 0 0 -> 13
            tell 0 0 0 -> S
            tell 0 1 2 -> S
            ofBook 0 0 -> 14
            tell 1 0 0 -> 0
            times 13 tell 1 3 4 -> 13
            tell 1 0 0 -> S
            ofBook 1 0 -> 14
            equation 0 13 -> o = o
            equation 0 14 -> I
            """;

    private static final String TELL_FULL_GONE = """
            ## 2. Books: an EQUATION that is GONE keeps its number and its place among the 14
            times 14 tell 0 1 2 -> 13
            takeBack 0 13 -> 13
            tell 0 1 2 -> S
            takeBack 0 0 -> 12
            tell 0 1 2 -> S
            ofBook 0 0 -> 14
            ofBook 0 1 -> 12
            equation 0 0 -> a = b gone
            equation 0 1 -> a = b
            equation 0 13 -> a = b gone
            new
            tell 0 0 0 -> 0
            takeBack 0 0 -> 0
            tell 0 1 1 -> 1             # not 0 again
            equation 0 0 -> o = o gone
            """;

    private static final String TELL_NUMBERS = """
            ## Promise 6: BOOKS 0 and 1, TERMS from the first to the last; these ahead of a full BOOK
            term 6 3 0 -> 6
            tell 0 6 0 -> 0
            tell 1 0 6 -> 0
            tell 2 0 0 -> I
            tell -1 0 0 -> I
            tell 0 7 0 -> I
            tell 0 0 7 -> I
            tell 0 -1 0 -> I
            tell 0 0 -1 -> I
            tell 2147483647 0 0 -> I
            tell 0 2147483647 0 -> I
            tell 0 0 -2147483648 -> I
            ofBook 0 0 -> 1
            times 13 tell 0 3 6 -> 13
            tell 0 7 0 -> I
            tell 0 0 -1 -> I
            tell 2 0 0 -> I
            tell 0 6 6 -> S
            """;

    private static final String TELL_ANEW = """
            ## Promise 6: the same once more, with both sides the same, or GONE: a number of its own
            tell 0 1 2 -> 0
            tell 0 1 2 -> 1
            tell 0 2 1 -> 2
            tell 0 5 5 -> 3
            takeBack 0 0 -> 3
            tell 0 1 2 -> 4
            ofBook 0 0 -> 5
            ofBook 0 1 -> 4
            """;

    private static final String UNLIKE_FULL = """
            ## Promise 7: the 6th pair is told, the 7th is not; each BOOK has its own
            times 5 unlike 0 0 1 -> 4
            unlike 0 1 2 -> 5
            unlike 0 0 1 -> S
            unlike 0 2 2 -> S
            ofBook 0 3 -> 6
            ofBook 0 8 -> -1            # the 7th, that would be a CLASH, is not told
            unlike 1 0 1 -> 0
            times 5 unlike 1 0 1 -> 5
            unlike 1 0 1 -> S
            """;

    private static final String UNLIKE_NUMBERS = """
            ## Promise 7: BOOKS 0 and 1, TERMS from the first to the last
            term 6 0 0 -> 6
            unlike 0 6 0 -> 0
            unlike 0 0 6 -> 1
            unlike 1 6 6 -> 0
            unlike 2 0 0 -> I
            unlike -1 0 0 -> I
            unlike 0 7 0 -> I
            unlike 0 0 7 -> I
            unlike 0 -1 0 -> I
            unlike 0 0 -1 -> I
            ofBook 0 3 -> 2
            ofBook 1 3 -> 1
            """;

    private static final String UNLIKE_BARE = """
            ## Promise 7: BARE TERMS alone; no such TERM ahead of that, that ahead of 6 pairs
            term 6 3 0 -> 6
            unlike 0 6 0 -> A
            unlike 0 0 6 -> A
            unlike 0 5 5 -> A
            unlike 0 3 7 -> I
            unlike 0 7 3 -> I
            unlike 2 3 3 -> I
            ofBook 0 3 -> 0
            times 6 unlike 0 0 1 -> 5
            unlike 0 6 0 -> A
            unlike 0 0 6 -> A
            unlike 0 0 7 -> I
            unlike -1 0 1 -> I
            unlike 0 0 1 -> S
            """;

    private static final String UNLIKE_SAME = """
            ## Promise 7: the same pair once more, and a TERM and itself, have numbers of their own
            unlike 0 0 1 -> 0
            unlike 0 0 1 -> 1
            unlike 0 1 0 -> 2
            unlike 0 2 2 -> 3
            ofBook 0 3 -> 4
            ofBook 0 8 -> 3
            """;

    private static final String TAKE_BACK_NUMBERS = """
            ## Promise 8: EQUATIONS from the first to the last of that BOOK, and none beside
            tell 0 1 2
            tell 0 0 1
            tell 1 0 0
            takeBack 0 2 -> I
            takeBack 0 -1 -> I
            takeBack 0 13 -> I
            takeBack 1 1 -> I
            takeBack 2 0 -> I
            takeBack -1 0 -> I
            takeBack 0 2147483647 -> I
            takeBack 0 -2147483648 -> I
            takeBack 0 31 -> I
            takeBack 0 32 -> I
            ofBook 0 1 -> 2
            takeBack 0 1 -> 1
            takeBack 0 0 -> 0
            takeBack 1 0 -> 0
            """;

    private static final String TAKE_BACK_GONE = """
            ## Promise 8: not once more, if it is GONE; no such BOOK or EQUATION ahead of that
            tell 0 1 2
            tell 0 1 2
            takeBack 0 0 -> 1
            takeBack 0 0 -> S
            takeBack 0 2 -> I
            takeBack 2 0 -> I
            takeBack 1 0 -> I
            ofBook 0 1 -> 1
            takeBack 0 1 -> 0
            takeBack 0 1 -> S
            """;

    private static String takeBackAll() {
        StringBuilder text = new StringBuilder("## Promise 8: all 14 one by one, down to none that is left\n");
        text.append("times 14 tell 0 1 2 -> 13\n");
        for (int k = 13; k >= 0; k--) {
            text.append("takeBack 0 ").append(k).append(" -> ").append(k).append('\n');
        }
        text.append("like 0 1 2 -> false\nofBook 0 0 -> 14\nofBook 0 1 -> 0\nofBook 0 2 -> 0\ntell 0 0 0 -> S\n");
        text.append("takeBack 0 13 -> S\n");
        return text.toString();
    }

    private static final String LAW = """
            ## Promise 9: which held ahead of it: 0 at first, 1 for ORDER, 2 for GROUPS, 3 for both
            law 0 0 0 -> 0
            law 0 1 0 -> 0
            law 0 1 0 -> 1
            law 0 0 1 -> 1
            law 0 0 1 -> 2
            law 0 1 1 -> 2
            law 0 1 1 -> 3
            law 0 0 0 -> 3
            law 0 0 0 -> 0
            ofBook 0 5 -> 0
            """;

    private static final String LAW_NUMBERS = """
            ## Promise 9: BOOKS 0 and 1, each with its own
            law 1 1 1 -> 0
            law 0 0 1 -> 0
            law 2 1 1 -> I
            law -1 1 1 -> I
            law 2147483647 0 0 -> I
            ofBook 0 5 -> 2
            ofBook 1 5 -> 3
            """;

    private static final String LEVEL_FULL = """
            ## Promise 10: the 5th LEVEL opens, the 6th does not; each BOOK has its own
            level 0 -> 1
            level 0 -> 2
            level 0 -> 3
            level 0 -> 4
            level 0 -> 5
            level 0 -> S
            ofBook 0 4 -> 5
            ofBook 1 4 -> 0
            times 5 level 1 -> 5
            level 1 -> S
            back 0 -> 4
            level 0 -> 5
            level 0 -> S
            ofBook 1 4 -> 5
            """;

    private static final String LEVEL_NUMBERS = """
            ## Promises 10 and 11: BOOKS 0 and 1; no such BOOK ahead of how many LEVELS are open
            level 2 -> I
            level -1 -> I
            back 2 -> I
            back -1 -> I
            level 2147483647 -> I
            back -2147483648 -> I
            times 5 level 0 -> 5
            times 5 level 1 -> 5
            level 2 -> I
            level -1 -> I
            """;

    private static final String BACK_NONE = """
            ## Promise 11: not without an open LEVEL, at first, behind the last one, and in the other BOOK
            back 0 -> S
            back 1 -> S
            level 0 -> 1
            back 1 -> S
            back 0 -> 0
            back 0 -> S
            tell 0 1 2
            back 0 -> S
            ofBook 0 0 -> 1
            """;

    private static final String BACK_EQUATIONS = """
            ## 2. Books: going back brings the EQUATIONS back: what was told behind the LEVEL is no more
            tell 0 1 2
            level 0
            tell 0 0 1
            tell 0 2 0
            back 0 -> 0
            ofBook 0 0 -> 1
            equation 0 0 -> a = b
            equation 0 1 -> I
            takeBack 0 1 -> I
            without 0 1 0 0 -> I
            like 0 0 1 -> false
            tell 0 1 1 -> 1             # its number is free again
            equation 0 1 -> a = a
            """;

    private static final String BACK_GONE = """
            ## 2. Books: what was taken back behind the LEVEL is no longer GONE, what was ahead of it is
            tell 0 1 2
            tell 0 0 1
            takeBack 0 1 -> 1
            level 0
            takeBack 0 0 -> 0
            like 0 1 2 -> false
            back 0 -> 0
            like 0 1 2 -> true
            equation 0 0 -> a = b
            equation 0 1 -> o = a gone
            takeBack 0 1 -> S
            takeBack 0 0 -> 0
            new
            level 0
            tell 0 1 2
            takeBack 0 0 -> 0
            back 0
            tell 0 1 2 -> 0             # told anew, it is not GONE
            equation 0 0 -> a = b
            ofBook 0 1 -> 1
            """;

    private static final String BACK_UNLIKES = """
            ## 2. Books: going back brings the UNLIKES back
            unlike 0 0 1
            level 0
            times 5 unlike 0 2 2 -> 5
            unlike 0 0 0 -> S
            ofBook 0 8 -> 1
            clashWhy 0 ->
            back 0
            ofBook 0 3 -> 1
            ofBook 0 8 -> -1
            clashWhy 0 -> -
            unlike 0 1 2 -> 1
            tell 0 1 2
            ofBook 0 8 -> 1             # the pair told anew
            """;

    private static final String BACK_LAWS = """
            ## 2. Books: going back brings the LAWS back, to both, to one, to none
            term 7 1 0 -> 6
            level 0
            law 0 1 1 -> 0
            level 0
            law 0 0 1 -> 3
            level 0
            law 0 0 0 -> 2
            normal 0 6 -> p(a,o)
            back 0
            ofBook 0 5 -> 2
            back 0
            ofBook 0 5 -> 3
            ofBook 0 7 -> 192
            back 0
            ofBook 0 5 -> 0
            normal 0 6 -> p(a,o)
            ofBook 0 7 -> 512
            law 0 0 0 -> 0
            """;

    private static final String BACK_FIVE = """
            ## 2. Books: five LEVELS, each to what it noted itself
            level 0
            tell 0 0 0
            level 0
            tell 0 1 1
            unlike 0 0 1
            level 0
            takeBack 0 0
            level 0
            law 0 1 0
            level 0
            tell 0 2 2
            takeBack 0 1
            ofBook 0 4 -> 5
            ofBook 0 0 -> 3
            ofBook 0 1 -> 1
            back 0 -> 4
            ofBook 0 0 -> 2
            ofBook 0 1 -> 1
            ofBook 0 5 -> 1
            back 0 -> 3
            ofBook 0 5 -> 0
            ofBook 0 1 -> 1
            back 0 -> 2
            ofBook 0 1 -> 2
            ofBook 0 3 -> 1
            back 0 -> 1
            ofBook 0 3 -> 0
            ofBook 0 0 -> 1
            back 0 -> 0
            ofBook 0 0 -> 0
            back 0 -> S
            """;

    private static final String BACK_LAST = """
            ## 2. Books: to the LEVEL opened last, that is no longer open; not to an older one
            tell 0 1 2
            level 0 -> 1
            tell 0 0 1
            level 0 -> 2
            tell 0 0 2
            back 0 -> 1
            ofBook 0 0 -> 2
            tell 0 2 2 -> 2
            back 0 -> 0
            ofBook 0 0 -> 1
            """;

    private static final String BACK_NOTED_ANEW = """
            ## 2. Books: a LEVEL that is opened again notes what is told then
            level 0
            tell 0 1 2
            back 0
            tell 0 0 1
            law 0 1 0
            unlike 0 0 2
            level 0
            takeBack 0 0
            law 0 0 0
            back 0 -> 0
            equation 0 0 -> o = a
            ofBook 0 5 -> 1
            ofBook 0 3 -> 1
            """;

    private static final String BACK_REST = """
            ## 2. Books: a LEVEL notes its BOOK alone: not the other one, TERMS, PROOFS, lemmas or knocks
            level 0
            tell 1 0 1
            unlike 1 0 1
            law 1 1 1
            level 1
            term 6 0 0 -> 6
            say 2 0 0 1 0 0
            keep 3 2
            knock
            back 0 -> 0
            ofBook 1 0 -> 1
            ofBook 1 3 -> 1
            ofBook 1 4 -> 1
            ofBook 1 5 -> 3
            house 0 -> 7
            house 2 -> 1
            house 4 -> 1
            house 6 -> 1
            back 1 -> 0
            ofBook 1 0 -> 1
            """;

    private static final String BACK_FULL = """
            ## 2. Books: a full BOOK goes back to an empty one, and is filled again
            level 0
            times 14 tell 0 1 2 -> 13
            times 6 unlike 0 1 2 -> 5
            tell 0 0 0 -> S
            unlike 0 0 0 -> S
            ofBook 0 8 -> 0
            back 0 -> 0
            ofBook 0 0 -> 0
            ofBook 0 3 -> 0
            ofBook 0 8 -> -1
            times 14 tell 0 0 1 -> 13
            times 6 unlike 0 0 2 -> 5
            tell 0 0 0 -> S
            unlike 0 0 0 -> S
            equation 0 13 -> o = a
            """;

    private static final String EQUATION_NUMBERS = """
            ## Promise 12: EQUATIONS from the first to the last of that BOOK; GONE ones, too
            tell 0 1 2
            tell 0 0 1
            tell 1 5 5
            takeBack 0 1
            equation 0 0 -> a = b
            equation 0 1 -> o = a gone
            equation 0 2 -> I
            equation 0 -1 -> I
            equation 1 0 -> z = z
            equation 1 1 -> I
            equation 2 0 -> I
            equation -1 0 -> I
            equation 0 14 -> I
            equation 0 2147483647 -> I
            equation 0 -2147483648 -> I
            """;

    private static String equationLast() {
        return "## Promise 12: the longest sides, the 14th EQUATION, and GONE\n" + TermEdgesTest.row(0, 6, 14) + """
            times 13 tell 0 0 0 -> 12
            tell 0 19 3 -> 13
            equation 0 13 -> s(s(s(s(s(s(s(s(s(s(s(s(s(s(o)))))))))))))) = x
            takeBack 0 13 -> 13
            equation 0 13 -> s(s(s(s(s(s(s(s(s(s(s(s(s(s(o)))))))))))))) = x gone
            equation 0 12 -> o = o
            equation 0 14 -> I
            """;
    }

    private static final String OF_BOOK_WHAT = """
            ## Promise 13: what 0 to 8, behind no such BOOK
            ofBook 0 0 -> 0
            ofBook 0 8 -> -1
            ofBook 0 9 -> A
            ofBook 0 -1 -> A
            ofBook 1 9 -> A
            ofBook 1 2147483647 -> A
            ofBook 1 -2147483648 -> A
            ofBook 2 9 -> I
            ofBook -1 -1 -> I
            ofBook 2 0 -> I
            """;

    private static final String OF_BOOK_COUNTS = """
            ## Promise 13: of a full BOOK
            times 14 tell 0 1 2 -> 13
            times 6 unlike 0 0 1 -> 5
            times 5 level 0 -> 5
            law 0 1 1
            takeBack 0 3
            ofBook 0 0 -> 14
            ofBook 0 1 -> 13
            ofBook 0 2 -> 13
            ofBook 0 3 -> 6
            ofBook 0 4 -> 5
            ofBook 0 5 -> 3
            ofBook 0 6 -> 2
            ofBook 0 7 -> 96            # a as b: half of 192
            ofBook 0 8 -> -1
            """;

    private static final String OF_BOOK_BARE = """
            ## 2. Books: an EQUATION is BARE, if both sides are
            term 6 3 0 -> 6
            tell 0 1 2
            tell 0 1 3
            tell 0 3 1
            tell 0 6 6
            ofBook 0 1 -> 4
            ofBook 0 2 -> 1
            like 0 1 2 -> true
            takeBack 0 0
            ofBook 0 2 -> 0
            like 0 1 2 -> false
            """;

    private static final String OF_BOOK_CLASSES = """
            ## Promise 13: as many classes as BARE TERMS, down to one
            ofBook 0 6 -> 3
            term 6 3 0 -> 6
            ofBook 0 6 -> 3             # s(x) is not BARE
            term 6 0 0 -> 7
            ofBook 0 6 -> 4
            tell 0 0 1
            tell 0 1 2
            ofBook 0 6 -> 2
            tell 0 7 2
            ofBook 0 6 -> 1
            ofBook 1 6 -> 4
            """;

    private static final String OF_BOOK_TABLES = """
            ## Promise 13: from all 512 TABLES down to none
            ofBook 0 7 -> 512
            tell 0 0 0
            tell 0 3 3
            ofBook 0 7 -> 512
            tell 0 3 4
            ofBook 0 7 -> 0
            tableAt 0 0 -> I
            ofBook 1 7 -> 512
            """;

    private static final String OF_BOOK_CLASH = """
            ## 2. Books: CLASH is the first of the UNLIKES whose two TERMS are LIKE; NONE without
            unlike 0 0 1
            unlike 0 1 2
            unlike 0 0 2
            ofBook 0 8 -> -1
            tell 0 0 2
            ofBook 0 8 -> 2
            tell 0 2 1
            ofBook 0 8 -> 0
            takeBack 0 0
            ofBook 0 8 -> 1
            takeBack 0 1
            ofBook 0 8 -> -1
            """;

    private static final String FIRST_CLASH_LAST = """
            ## 2. Books: CLASH is the last of six, or the first of six
            times 5 unlike 0 0 1 -> 4
            unlike 0 2 1 -> 5
            tell 0 1 2
            ofBook 0 8 -> 5
            clashWhy 0 -> 0
            tell 0 1 0
            ofBook 0 8 -> 0
            clashWhy 0 -> 1
            """;
}
