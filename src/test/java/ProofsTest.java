/** Promises 26 to 35: say, unsay, find, shorten, join, line, ofLine, hangs, firstWrong, fails. */
public final class ProofsTest {
    private ProofsTest() {
    }

    public static void main(String[] args) {
        Script.run("ProofsTest", SAY, UNSAY, LINE, TOLD, SAME_TURNED_ROW, WITHIN, PUT, HANGS, INDUCT, INDUCT_FAULTS,
                INDUCT_VARIABLES, LAWS_CLASSES, USES, FIND, FIND_ROW, FIND_LIMIT, deepFind(), ANEW, SHORTEN, SHORTEN_ASSUMPTIONS,
                SHORTEN_NUMBERS, JOIN, JOIN_NUMBERS, JOIN_LIMIT, OF_LINE, FIRST_WRONG, FAILS, FAILS_INDUCTION, WRONG);
    }

    // Promise 26
    private static final String SAY = """
            say 0 0 0 1 0 0 -> 0
            say 0 0 1 14 -1 63 -> 1     # right or not
            say 1 0 0 1 0 0 -> 0
            say 3 0 0 1 0 0 -> throws.IndexOutOfBoundsException
            say -1 0 0 15 0 0 -> throws.IndexOutOfBoundsException
            say 0 6 0 15 0 0 -> throws.IndexOutOfBoundsException
            say 0 0 -1 15 0 0 -> throws.IndexOutOfBoundsException
            say 0 0 0 15 0 0 -> throws.IllegalArgumentException
            say 0 0 0 -1 0 0 -> throws.IllegalArgumentException
            say 0 0 0 0 -2 0 -> throws.IllegalArgumentException
            say 0 0 0 0 64 0 -> throws.IllegalArgumentException
            say 0 0 0 0 0 -2 -> throws.IllegalArgumentException
            say 0 0 0 0 0 64 -> throws.IllegalArgumentException
            house 2 -> 3
            times 22 say 0 0 0 1 0 0 -> 23
            say 0 0 0 1 0 0 -> throws.IllegalStateException
            say 0 0 0 15 0 0 -> throws.IllegalArgumentException
            say 0 6 0 15 0 0 -> throws.IndexOutOfBoundsException
            house 2 -> 25
            say 1 0 0 1 0 0 -> 1
            """;

    // Promise 27
    private static final String UNSAY = """
            unsay 0 -> throws.IllegalStateException
            say 0 0 0 1 0 0
            say 0 1 1 1 0 0
            unsay 1 -> throws.IllegalStateException
            unsay 0 -> 1
            line 0 0 -> o = o: 1 0 0
            line 0 1 -> throws.IndexOutOfBoundsException
            unsay 0 -> 0
            unsay 0 -> throws.IllegalStateException
            unsay 3 -> throws.IndexOutOfBoundsException
            unsay -1 -> throws.IndexOutOfBoundsException
            """;

    // Promise 31
    private static final String LINE = """
            term 6 3 0 -> 6
            term 7 6 1 -> 7
            say 1 7 3 14 -1 63
            say 1 0 2 0 5 0
            line 1 0 -> p(s(x),a) = x: 14 -1 63
            line 1 1 -> o = b: 0 5 0
            line 1 2 -> throws.IndexOutOfBoundsException
            line 1 -1 -> throws.IndexOutOfBoundsException
            line 0 0 -> throws.IndexOutOfBoundsException
            line 3 0 -> throws.IndexOutOfBoundsException
            line -1 0 -> throws.IndexOutOfBoundsException
            """;

    // RULE 0, FAULTS 0 to 3
    private static final String TOLD = """
            tell 0 1 2
            tell 0 3 0
            tell 1 2 2
            say 0 1 2 0 0 0
            say 0 2 1 0 0 0
            say 0 1 2 0 2 0
            say 0 1 2 0 -1 0
            say 0 3 0 0 1 63            # j is not looked at
            say 0 1 2 0 1 0
            ofLine 0 0 0 -> 0
            ofLine 0 1 0 -> 3
            ofLine 0 2 0 -> 1
            ofLine 0 3 0 -> 1
            ofLine 0 4 0 -> 0
            ofLine 0 5 0 -> 3
            level 0
            takeBack 0 0
            ofLine 0 0 0 -> 2
            ofLine 0 1 0 -> 2           # GONE goes ahead of the sides
            tell 0 1 2
            ofLine 0 2 0 -> 0
            back 0
            ofLine 0 0 0 -> 0
            ofLine 0 2 0 -> 1
            """;

    // RULES 1, 2, 3
    private static final String SAME_TURNED_ROW = """
            tell 0 1 2
            say 0 1 1 1 -1 -1
            say 0 1 2 1 0 0
            say 0 1 2 0 0 0             # 2: a = b
            say 0 2 1 2 2 -1            # 3: b = a
            say 0 1 2 2 2 0
            say 0 2 1 2 5 0             # names itself
            say 0 2 1 2 -1 0
            say 0 2 1 2 63 0
            ofLine 0 0 0 -> 0
            ofLine 0 1 0 -> 3
            ofLine 0 3 0 -> 0
            ofLine 0 4 0 -> 3
            ofLine 0 5 0 -> 1
            ofLine 0 6 0 -> 1
            ofLine 0 7 0 -> 1
            say 0 1 1 3 2 3             # 8
            say 0 2 2 3 3 2
            say 0 1 1 3 3 2             # 10: b = a, a = b tell b = b
            say 0 1 2 3 2 2             # 11: a = b, b is not a
            say 0 1 2 3 0 2             # 12: a = a, a = b
            say 0 1 0 3 0 2
            say 0 1 2 3 0 14            # 14
            say 0 1 2 3 -1 2
            say 0 1 1 3 16 3
            say 0 1 2 3 0 1             # 17: a wrong line may be named
            ofLine 0 8 0 -> 0
            ofLine 0 9 0 -> 0
            ofLine 0 10 0 -> 3
            ofLine 0 11 0 -> 3
            ofLine 0 12 0 -> 0
            ofLine 0 13 0 -> 3
            ofLine 0 14 0 -> 1
            ofLine 0 15 0 -> 1
            ofLine 0 16 0 -> 1
            ofLine 0 17 0 -> 0
            """;

    // RULE 4
    private static final String WITHIN = """
            term 6 1 0 -> 6             # s(a)
            term 6 2 0 -> 7             # s(b)
            term 7 1 0 -> 8             # p(a,o)
            term 7 2 0 -> 9             # p(b,o)
            term 7 0 1 -> 10            # p(o,a)
            term 7 0 2 -> 11            # p(o,b)
            tell 0 1 2
            say 0 1 2 0 0 0             # 0: a = b
            say 0 0 0 1 0 0             # 1: o = o
            say 0 6 7 4 0 63            # 2: j is not looked at
            say 0 7 6 4 0 0
            say 0 8 9 4 0 1             # 4
            say 0 8 9 4 1 0
            say 0 10 11 4 1 0           # 6
            say 0 10 11 4 0 1
            say 0 8 9 4 0 8             # 8: no such line for the right parts
            say 0 8 9 4 -1 1
            say 0 6 9 4 0 1             # 10: other SIGNS
            say 0 9 6 4 0 1
            say 0 1 2 4 0 0             # 12: no parts
            say 0 1 2 4 20 0
            say 0 6 9 4 0 30            # 14: the SIGN of t is not p
            say 0 9 6 4 0 30            # but here
            ofLine 0 2 0 -> 0
            ofLine 0 3 0 -> 3
            ofLine 0 4 0 -> 0
            ofLine 0 5 0 -> 3
            ofLine 0 6 0 -> 0
            ofLine 0 7 0 -> 3
            ofLine 0 8 0 -> 1
            ofLine 0 9 0 -> 1
            ofLine 0 10 0 -> 3
            ofLine 0 11 0 -> 3
            ofLine 0 12 0 -> 3
            ofLine 0 13 0 -> 1
            ofLine 0 14 0 -> 3
            ofLine 0 15 0 -> 1
            """;

    // RULES 5 to 7
    private static final String PUT = """
            term 7 3 4 -> 6             # p(x,y)
            term 7 4 3 -> 7             # p(y,x)
            tell 0 6 7
            put 6 3 1 -> 8              # p(a,y)
            put 7 3 1 -> 9              # p(y,a)
            put 8 4 2 -> 10             # p(a,b)
            put 9 4 2 -> 11             # p(b,a)
            say 0 6 7 0 0 0             # 0
            say 0 8 9 5 0 1             # 1: a for x
            say 0 10 11 6 1 2           # 2: b for y
            say 0 10 11 7 2 9           # 3: no z there: the same again
            say 0 8 9 6 0 1             # 4: not y
            say 0 8 9 5 0 2             # 5: not b
            say 0 8 9 5 0 12            # 6: no such TERM
            say 0 8 9 5 0 -1
            say 0 8 9 5 8 1             # 8: no such line
            say 0 9 8 5 0 1
            say 0 6 7 5 0 3             # 10: x for x
            say 0 8 7 5 0 1             # only the left side
            ofLine 0 1 0 -> 0
            ofLine 0 2 0 -> 0
            ofLine 0 3 0 -> 0
            ofLine 0 4 0 -> 3
            ofLine 0 5 0 -> 3
            ofLine 0 6 0 -> 1
            ofLine 0 7 0 -> 1
            ofLine 0 8 0 -> 1
            ofLine 0 9 0 -> 3
            ofLine 0 10 0 -> 0
            ofLine 0 11 0 -> 3
            term 6 1 0 -> 12
            ofLine 0 6 0 -> 3           # now there is one
            say 1 3 4 8 0 0             # x = y
            say 1 1 4 5 0 1             # 1: x stands in the ASSUMPTION
            say 1 3 1 6 0 1
            say 1 3 4 7 0 1             # 3: z does not
            say 1 4 3 2 3 0
            say 1 4 3 5 4 3             # 5: HANGS ON it still
            ofLine 1 1 0 -> 5
            ofLine 1 2 0 -> 5
            ofLine 1 3 0 -> 0
            ofLine 1 5 0 -> 5
            hangs 1 5 -> 0
            """;

    // Promise 33
    private static final String HANGS = """
            say 0 0 1 8 0 0
            hangs 0 0 -> 0
            say 0 1 2 8 63 63
            hangs 0 1 -> 1
            say 0 1 1 1 0 1             # SAME names none
            hangs 0 2 ->
            say 0 0 2 3 0 1
            hangs 0 3 -> 0 1
            say 0 2 0 2 3 0
            hangs 0 4 -> 0 1
            say 0 1 1 2 4 0             # wrong, but it names line 4
            hangs 0 5 -> 0 1
            say 0 0 0 3 0 9             # one of two ahead
            hangs 0 6 -> 0
            say 0 0 0 3 9 1
            hangs 0 7 -> 1
            say 0 2 2 8 0 0
            say 0 0 0 3 8 3
            hangs 0 9 -> 0 1 8
            say 0 0 0 12 3 3
            hangs 0 10 ->
            say 0 0 0 14 3 3
            hangs 0 11 ->
            say 0 0 0 6 1 3             # PUT: j is no line
            hangs 0 12 -> 1
            say 0 0 0 4 8 3             # WITHIN of a SIGN without parts
            hangs 0 13 -> 8
            term 7 0 0 -> 6
            say 0 6 6 4 8 3
            hangs 0 14 -> 0 1 8
            hangs 0 15 -> throws.IndexOutOfBoundsException
            hangs 0 -1 -> throws.IndexOutOfBoundsException
            hangs 3 0 -> throws.IndexOutOfBoundsException
            hangs 1 0 -> throws.IndexOutOfBoundsException
            """;

    // RULES 9 to 11: o + x = x from x + o = x and x + s(y) = s(x + y), as said in books.
    private static final String INDUCT = """
            term 7 3 0 -> 6             # p(x,o)
            term 6 4 0 -> 7             # s(y)
            term 7 3 7 -> 8             # p(x,s(y))
            term 7 3 4 -> 9             # p(x,y)
            term 6 9 0 -> 10            # s(p(x,y))
            tell 0 6 3
            tell 0 8 10
            term 7 0 4 -> 11            # p(o,y)
            term 7 0 0 -> 12
            term 7 0 7 -> 13            # p(o,s(y))
            term 6 11 0 -> 14           # s(p(o,y))
            say 0 6 3 0 0 0             # 0
            say 0 12 0 5 0 0            # 1: p(o,o) = o
            say 0 11 4 8 0 0            # 2: p(o,y) = y
            say 0 8 10 0 1 0            # 3
            say 0 13 14 5 3 0           # 4: p(o,s(y)) = s(p(o,y))
            say 0 14 7 4 2 0            # 5: s(p(o,y)) = s(y)
            say 0 13 7 3 4 5            # 6: p(o,s(y)) = s(y)
            say 0 11 4 10 1 6           # 7
            firstWrong 0 -> -1
            hangs 0 6 -> 2
            hangs 0 7 ->
            ofLine 0 7 1 -> 0
            ofLine 0 6 2 -> 0
            ofLine 0 7 2 -> 1
            fails 0 7 -> -1
            say 0 11 4 9 1 6            # 8: not by x
            say 0 11 4 11 1 6           # nor by z
            say 0 11 4 10 6 1           # 10: the wrong way round
            ofLine 0 8 0 -> 3
            ofLine 0 9 0 -> 3
            ofLine 0 10 0 -> 3
            hangs 0 10 -> 2             # on all on which both HANG
            say 0 11 4 10 1 30          # 11: no such line
            hangs 0 11 ->
            say 0 11 4 10 30 6
            ofLine 0 12 0 -> 1
            hangs 0 12 -> 2
            """;

    // FAULTS 4 and 5 of INDUCT, and on what it HANGS then.
    private static final String INDUCT_FAULTS = """
            term 6 3 0 -> 6             # s(x)
            term 7 3 1 -> 7             # p(x,a)
            say 0 0 0 1 0 0             # 0: o = o
            say 0 3 3 8 0 0             # 1: x = x
            say 0 6 6 4 1 0             # 2: s(x) = s(x), by it
            say 0 3 3 9 0 2             # 3: x = x
            ofLine 0 3 0 -> 0
            hangs 0 3 ->
            say 0 6 6 1 0 0             # 4: by nothing
            say 0 3 3 9 0 4             # 5: FAULT 4
            ofLine 0 5 0 -> 4
            hangs 0 5 ->
            say 0 6 3 8 0 0             # 6: s(x) = x
            say 0 3 6 2 6 0             # 7
            say 0 6 6 3 6 7             # 8: s(x) = s(x), by 6
            say 0 3 3 9 0 8             # 9: FAULT 4, HANGS ON it
            ofLine 0 9 0 -> 4
            hangs 0 9 -> 6
            say 0 6 6 3 2 8             # 10: by 1 and 6
            say 0 3 3 9 0 10            # 11: FAULT 5, x stands in 6
            ofLine 0 11 0 -> 5
            hangs 0 11 -> 6             # without 1
            say 0 3 3 8 0 0             # 12: x = x once more
            say 0 6 6 4 12 0            # 13
            say 0 6 6 3 13 2            # 14: by 1 and 12
            say 0 3 3 9 0 14            # 15: the first one goes, x stands in the other
            ofLine 0 15 0 -> 5
            hangs 0 15 -> 12
            say 0 3 3 9 0 13            # 16
            ofLine 0 16 0 -> 0
            hangs 0 16 ->
            say 0 0 3 8 0 0             # 17: o = x
            say 0 3 0 2 17 0
            say 0 0 0 3 17 18           # 19: o = o, by 17
            say 0 3 3 9 19 2            # 20: x stands in an ASSUMPTION of line i
            ofLine 0 20 0 -> 5
            hangs 0 20 -> 17
            """;

    // INDUCT: sides without the variable; other ASSUMPTIONS without it; s of the variable not kept.
    private static final String INDUCT_VARIABLES = """
            tell 0 1 2
            say 0 1 2 0 0 0             # 0: a = b
            say 0 1 2 8 0 0             # 1: a = b, an ASSUMPTION
            say 0 1 2 9 0 1             # 2: by x, s(x) is no TERM yet
            ofLine 0 2 0 -> 0
            hangs 0 2 ->
            say 0 1 2 9 1 1             # 3: line i HANGS ON it, too
            ofLine 0 3 0 -> 0
            hangs 0 3 -> 1
            say 0 0 4 8 0 0             # 4: o = y
            say 0 4 0 2 4 0
            say 0 0 0 3 4 5             # 6: o = o, by 4
            say 0 3 3 8 0 0             # 7
            term 6 3 0 -> 6
            say 0 6 6 4 7 0             # 8
            say 0 3 3 9 6 8             # 9: by x, HANGS ON o = y still
            ofLine 0 9 0 -> 0
            hangs 0 9 -> 4
            say 0 4 4 8 0 0             # 10
            term 6 4 0 -> 7
            say 0 7 7 4 10 0            # 11
            say 0 4 4 10 6 11           # 12: by y, that stands in o = y
            ofLine 0 12 0 -> 5
            hangs 0 12 -> 4
            say 0 5 5 8 0 0             # 13
            term 6 5 0 -> 8
            say 0 8 8 4 13 0
            say 0 5 5 11 6 14           # 15: by z
            ofLine 0 15 0 -> 0
            say 0 5 5 10 6 14
            ofLine 0 16 0 -> 3
            new
            say 0 3 3 8 0 0             # x = x, but s(x) is no TERM
            say 0 0 0 1 0 0
            say 0 3 3 9 1 0
            ofLine 0 2 0 -> 3
            term 6 3 0 -> 6
            ofLine 0 2 0 -> 3
            """;

    // RULES 8, 13, 14
    private static final String LAWS_CLASSES = """
            term 7 1 2 -> 6             # p(a,b)
            term 7 2 1 -> 7             # p(b,a)
            term 7 6 3 -> 8             # p(p(a,b),x)
            term 7 3 7 -> 9             # p(x,p(b,a))
            say 0 0 1 8 -1 -1           # ASSUME: always
            say 0 6 7 13 -1 -1
            say 0 8 9 13 0 0
            say 0 6 7 14 -1 -1
            say 0 3 3 14 0 0            # 4: not BARE
            say 0 3 3 13 0 0            # 5
            say 0 0 3 14 0 0
            say 0 3 0 14 0 0
            ofLine 0 0 0 -> 0
            ofLine 0 1 0 -> 3
            ofLine 0 2 0 -> 3
            ofLine 0 3 0 -> 3
            ofLine 0 4 0 -> 3
            ofLine 0 5 0 -> 0
            ofLine 0 6 0 -> 3
            ofLine 0 7 0 -> 3
            law 0 1 0
            ofLine 0 1 0 -> 0
            ofLine 0 2 0 -> 0           # p(p(a,b),x) both
            ofLine 0 3 0 -> 3
            law 0 0 1
            ofLine 0 1 0 -> 3
            ofLine 0 2 0 -> 3
            law 1 1 1
            ofLine 0 1 0 -> 3           # LAWS of BOOK 0
            tell 1 1 2
            ofLine 0 3 0 -> 3
            tell 0 1 2
            ofLine 0 3 0 -> 0
            takeBack 0 0
            ofLine 0 3 0 -> 3
            """;

    // Which lines USE induction.
    private static final String USES = """
            say 0 0 0 1 0 0             # 0
            say 0 0 0 9 9 9             # 1: an INDUCT line with a FAULT
            say 0 0 0 2 1 0             # 2
            say 0 0 0 2 0 0             # 3
            say 0 0 0 3 3 2             # 4
            say 0 0 0 3 2 3             # 5
            say 0 0 0 3 3 9             # 6: not ahead
            say 0 0 0 5 3 2             # 7: TERM 2, not line 2
            say 0 0 0 8 2 2             # 8
            say 0 0 0 12 2 2            # 9: no such lemma
            say 0 0 0 4 2 3             # 10
            ofLine 0 0 2 -> 0
            ofLine 0 1 2 -> 1
            ofLine 0 2 2 -> 1
            ofLine 0 3 2 -> 0
            ofLine 0 4 2 -> 1
            ofLine 0 5 2 -> 1
            ofLine 0 6 2 -> 0
            ofLine 0 7 2 -> 0
            ofLine 0 8 2 -> 0
            ofLine 0 9 2 -> 0
            ofLine 0 10 2 -> 1
            """;

    // Promise 28
    private static final String FIND = """
            term 6 1 0 -> 6             # s(a)
            term 6 2 0 -> 7             # s(b)
            term 6 6 0 -> 8             # s(s(a))
            term 6 7 0 -> 9             # s(s(b))
            term 7 1 0 -> 10            # p(a,o)
            term 7 2 0 -> 11            # p(b,o)
            find 0 0 0 -> 1
            line 0 0 -> o = o: 1 0 0
            find 0 1 2 -> -9
            house 2 -> 1
            tell 0 2 1
            tell 0 1 2
            tell 0 1 2
            takeBack 0 0
            find 0 1 2 -> 2
            line 0 1 -> a = b: 0 1 0    # the smallest number that is not GONE
            find 0 2 1 -> 4
            line 0 2 -> a = b: 0 1 0
            line 0 3 -> b = a: 2 2 0
            find 1 8 9 -> 3
            line 1 0 -> a = b: 0 1 0
            line 1 1 -> s(a) = s(b): 4 0 0
            line 1 2 -> s(s(a)) = s(s(b)): 4 1 0
            firstWrong 1 -> -1
            find 2 10 11 -> 3
            line 2 0 -> a = b: 0 1 0
            line 2 1 -> o = o: 1 0 0
            line 2 2 -> p(a,o) = p(b,o): 4 0 1
            firstWrong 0 -> -1
            tell 0 11 10
            find 2 10 11 -> 5
            line 2 3 -> p(b,o) = p(a,o): 0 3 0
            line 2 4 -> p(a,o) = p(b,o): 2 3 0
            find 3 0 0 -> throws.IndexOutOfBoundsException
            find 0 12 3 -> throws.IndexOutOfBoundsException
            find 0 3 -1 -> throws.IndexOutOfBoundsException
            find 0 3 0 -> throws.IllegalArgumentException
            find 0 0 3 -> throws.IllegalArgumentException
            tell 1 0 1
            find 0 0 1 -> -9            # by BOOK 0
            """;

    // Promise 28: ROW lines behind the second neighbours and all later ones.
    private static final String FIND_ROW = """
            term 6 0 0 -> 6             # s(o)
            term 6 1 0 -> 7             # s(a)
            tell 0 0 1                  # 0
            tell 0 2 1                  # 1
            tell 0 2 6                  # 2
            say 0 0 0 1 0 0
            find 0 0 7 -> 10
            path 0 0 7 -> 0 1 2 6 7
            line 0 1 -> o = a: 0 0 0
            line 0 2 -> b = a: 0 1 0
            line 0 3 -> a = b: 2 2 0
            line 0 4 -> o = b: 3 1 3
            line 0 5 -> b = s(o): 0 2 0
            line 0 6 -> o = s(o): 3 4 5
            line 0 7 -> o = a: 0 0 0
            line 0 8 -> s(o) = s(a): 4 7 0
            line 0 9 -> o = s(a): 3 6 8
            firstWrong 0 -> -1
            """;

    // Promise 28: just 24 lines, and one more.
    private static final String FIND_LIMIT = """
            term 6 1 0 -> 6
            term 6 2 0 -> 7
            tell 0 1 2
            times 22 say 0 0 0 1 0 0 -> 21
            find 0 6 7 -> 24
            line 0 23 -> s(a) = s(b): 4 22 0
            find 0 0 0 -> -9
            unsay 0 -> 23
            find 0 6 7 -> -9
            house 2 -> 23
            line 0 22 -> a = b: 0 0 0
            find 0 0 0 -> 24
            find 0 3 3 -> throws.IllegalArgumentException
            """;

    // Promise 28: 18 deep, where larger TERMS stand on the way, and just 24 lines.
    private static String deepFind() {
        StringBuilder text = new StringBuilder();
        appendRow(text, 1, 6, 13);      // s(a) 6 to s^13(a) 18
        appendRow(text, 2, 19, 13);     // s(b) 19 to s^13(b) 31
        text.append("term 7 0 0 -> 32\nterm 7 0 1 -> 33\n");
        appendRow(text, 32, 34, 6);     // s(p(o,o)) 34 to 39
        appendRow(text, 33, 40, 6);     // s(p(o,a)) 40 to 45
        text.append("tell 0 1 2\ntell 0 32 18\ntell 0 33 31\n");
        text.append("round 0 32 33 -> 13\nround 0 38 44 -> 18\n");
        text.append("path 0 32 33 -> 32 18 31 33\n");
        text.append("find 0 39 45 -> -9\n");
        text.append("house 2 -> 0\n");
        text.append("find 0 38 44 -> 24\n");
        text.append("line 0 0 -> p(o,o) = s(s(s(s(s(s(s(s(s(s(s(s(s(a))))))))))))): 0 1 0\n");
        text.append("line 0 1 -> a = b: 0 0 0\n");
        text.append("line 0 2 -> s(a) = s(b): 4 1 0\n");
        text.append("line 0 23 -> s(s(s(s(s(p(o,o)))))) = s(s(s(s(s(p(o,a)))))): 4 22 0\n");
        text.append("firstWrong 0 -> -1\n");
        text.append("find 1 37 43 -> 23\nshorten 1 -> 0\n");
        return text.toString();
    }

    private static void appendRow(StringBuilder text, int of, int first, int count) {
        for (int k = 0; k < count; k++) {
            text.append("term 6 ").append(k == 0 ? of : first + k - 1).append(" 0 -> ").append(first + k).append('\n');
        }
    }

    // Lines where other ones were that are no more.
    private static final String ANEW = """
            say 0 0 1 9 0 0
            say 0 0 1 8 0 0
            firstWrong 0 -> 0
            hangs 0 1 -> 1
            unsay 0
            unsay 0
            house 3 -> 0
            find 0 0 0 -> 1
            ofLine 0 0 0 -> 0
            ofLine 0 0 2 -> 0
            house 3 -> 1
            say 1 1 1 1 0 0
            house 3 -> 2
            join 0 1 -> 2
            hangs 0 1 ->
            say 0 0 1 1 0 0
            unsay 0
            shorten 0 -> 1
            ofLine 0 0 0 -> 0
            firstWrong 0 -> -1
            """;

    // Promise 29
    private static final String SHORTEN = """
            shorten 0 -> -9
            tell 0 1 2
            say 0 1 2 0 0 0             # 0: a = b
            say 0 0 0 1 0 0             # 1: not named
            say 0 1 2 0 0 5             # 2: a = b again
            say 0 2 1 2 2 7             # 3: b = a
            say 0 1 1 3 0 3             # 4: a = a
            say 0 1 2 3 4 2             # 5: a = b once more
            say 0 2 1 2 5 0             # 6: b = a once more
            say 0 2 2 3 6 2             # 7: b = b
            shorten 0 -> 5
            line 0 0 -> a = b: 0 0 0
            line 0 1 -> b = a: 2 0 7
            line 0 2 -> b = b: 3 1 0
            line 0 3 -> throws.IndexOutOfBoundsException
            firstWrong 0 -> -1
            shorten 0 -> 0
            say 0 1 2 0 0 0             # now the first line stands for the last one
            shorten 0 -> 3
            line 0 0 -> a = b: 0 0 0
            house 2 -> 1
            say 0 2 1 1 0 0
            shorten 0 -> -9             # not ACCEPTED
            house 2 -> 2
            takeBack 0 0
            unsay 0
            shorten 0 -> -9
            shorten 3 -> throws.IndexOutOfBoundsException
            shorten -1 -> throws.IndexOutOfBoundsException
            """;

    // Promise 29: the same sides, but other ASSUMPTIONS; ASSUME lines stand for themselves.
    private static final String SHORTEN_ASSUMPTIONS = """
            say 0 1 2 8 0 0             # 0
            say 0 1 2 8 0 0             # 1
            say 0 2 1 2 1 0             # 2: by 1
            say 0 2 1 2 0 0             # 3: by 0
            say 0 1 2 2 3 0             # 4: by 0: line 0 stands for it
            say 0 1 1 3 4 2             # 5: by 0 and 1
            say 0 1 1 3 0 3             # 6: by 0
            say 0 1 1 3 5 6             # 7: by 0 and 1, as 5
            shorten 0 -> 4
            line 0 0 -> a = b: 8 0 0
            line 0 1 -> a = b: 8 0 0
            line 0 2 -> b = a: 2 1 0
            line 0 3 -> a = a: 3 0 2
            hangs 0 3 -> 0 1
            new
            say 0 1 2 8 0 0
            say 0 0 0 1 0 0
            say 0 1 2 8 0 0             # an ASSUME line last
            shorten 0 -> 2
            line 0 0 -> a = b: 8 0 0
            hangs 0 0 -> 0
            new
            say 0 1 1 1 0 0             # a = a by nothing
            say 0 1 1 8 0 0             # and as an ASSUMPTION
            say 0 1 1 3 0 1
            say 0 1 1 3 0 2             # by 1, as line 1
            shorten 0 -> 3
            line 0 0 -> a = a: 8 0 0
            """;

    // Promise 29: numbers that name no line stay.
    private static final String SHORTEN_NUMBERS = """
            term 6 3 0 -> 6             # s(x)
            term 6 1 0 -> 7             # s(a)
            term 6 2 0 -> 8             # s(b)
            tell 0 0 0
            tell 0 6 3
            say 0 0 0 1 0 0
            say 0 6 3 0 1 1
            say 0 7 1 5 1 1             # s(a) = a, TERM 1
            say 0 8 8 1 2 2
            say 0 1 7 2 2 3
            shorten 0 -> 2
            line 0 0 -> s(x) = x: 0 1 1
            line 0 1 -> s(a) = a: 5 0 1
            line 0 2 -> a = s(a): 2 1 3
            new
            term 6 0 0 -> 6
            term 6 6 0 -> 7
            say 0 1 1 1 0 0
            say 0 0 0 1 0 0
            say 0 6 6 4 1 0             # s(o): line 0 is not named by j
            say 0 7 7 4 2 1
            shorten 0 -> 1
            line 0 1 -> s(o) = s(o): 4 0 0
            line 0 2 -> s(s(o)) = s(s(o)): 4 1 1
            """;

    // Promise 30
    private static final String JOIN = """
            tell 0 1 2
            join 0 1 -> 0               # both without lines
            say 0 0 1 8 0 0             # o = a
            join 0 1 -> 1
            say 1 1 2 0 0 0             # a = b
            say 1 2 1 2 0 0             # b = a
            say 1 1 2 2 1 0             # a = b
            join 2 1 -> 3               # without own lines: no ROW line
            line 2 2 -> a = b: 2 1 0
            join 0 1 -> 5
            line 0 0 -> o = a: 8 0 0
            line 0 1 -> a = b: 0 0 0    # TOLD names no line
            line 0 2 -> b = a: 2 1 0
            line 0 3 -> a = b: 2 2 0
            line 0 4 -> o = b: 3 0 3
            firstWrong 0 -> -1
            line 1 2 -> a = b: 2 1 0    # the other one stays
            join 1 0 -> 8               # a = b, o = b: no ROW line
            line 1 3 -> o = a: 8 0 0
            line 1 5 -> b = a: 2 4 0
            join 0 0 -> throws.IllegalArgumentException
            join 3 3 -> throws.IndexOutOfBoundsException
            join 0 3 -> throws.IndexOutOfBoundsException
            join -1 0 -> throws.IndexOutOfBoundsException
            """;

    // Promise 30: by its RULE, whatever it is.
    private static final String JOIN_NUMBERS = """
            term 7 0 0 -> 6
            term 6 0 0 -> 7
            say 0 0 1 1 0 0
            say 0 0 1 1 0 0
            say 1 2 2 0 5 6
            say 1 2 2 1 5 6
            say 1 2 2 2 -1 6
            say 1 2 2 3 63 -1
            say 1 6 6 4 5 6
            say 1 7 6 4 5 6
            say 1 0 6 4 5 6
            say 1 2 2 5 5 6
            say 1 2 2 7 5 6
            say 1 2 2 8 5 6
            say 1 2 2 9 5 6
            say 1 2 2 11 5 6
            say 1 2 2 12 5 6
            say 1 2 2 13 5 6
            say 1 2 2 14 5 6
            join 0 1 -> 17
            line 0 2 -> b = b: 0 5 6
            line 0 3 -> b = b: 1 5 6
            line 0 4 -> b = b: 2 1 6
            line 0 5 -> b = b: 3 65 1
            line 0 6 -> p(o,o) = p(o,o): 4 7 8
            line 0 7 -> s(o) = p(o,o): 4 7 6
            line 0 8 -> o = p(o,o): 4 7 6
            line 0 9 -> b = b: 5 7 6
            line 0 10 -> b = b: 7 7 6
            line 0 11 -> b = b: 8 5 6
            line 0 12 -> b = b: 9 7 8
            line 0 13 -> b = b: 11 7 8
            line 0 14 -> b = b: 12 5 6
            line 0 15 -> b = b: 13 5 6
            line 0 16 -> b = b: 14 5 6
            ofLine 0 5 6 -> 65
            join 1 0 -> -9
            """;

    // Promise 30: just 24 lines with the ROW line, and one more.
    private static final String JOIN_LIMIT = """
            times 12 say 0 0 1 8 0 0 -> 11
            times 12 say 1 2 2 1 0 0 -> 11
            join 0 1 -> 24
            join 0 2 -> 24
            join 2 0 -> 24
            times 13 unsay 0 -> 11
            unsay 1 -> 11
            join 0 1 -> 22
            times 11 unsay 0 -> 11
            say 1 1 2 8 0 0             # o = a, a = b: 24 and the ROW line
            say 0 0 1 8 0 0
            join 0 1 -> -9
            house 2 -> 48
            line 0 11 -> o = a: 8 0 0
            unsay 0
            join 0 1 -> 24
            line 0 23 -> o = b: 3 10 22
            """;

    // Promise 32
    private static final String OF_LINE = """
            term 6 1 0 -> 6
            say 2 6 2 8 5 -1
            say 2 0 1 3 0 0
            ofLine 2 0 0 -> 0
            ofLine 2 0 1 -> 1
            ofLine 2 0 2 -> 0
            ofLine 2 0 3 -> 8
            ofLine 2 0 4 -> 6
            ofLine 2 0 5 -> 2
            ofLine 2 0 6 -> 5
            ofLine 2 0 7 -> -1
            ofLine 2 1 0 -> 3
            ofLine 2 1 1 -> 1
            ofLine 2 1 3 -> 3
            ofLine 2 1 4 -> 0
            ofLine 2 1 5 -> 1
            ofLine 2 0 8 -> throws.IllegalArgumentException
            ofLine 2 0 -1 -> throws.IllegalArgumentException
            ofLine 2 2 8 -> throws.IndexOutOfBoundsException
            ofLine 2 -1 0 -> throws.IndexOutOfBoundsException
            ofLine 0 0 0 -> throws.IndexOutOfBoundsException
            ofLine 3 0 9 -> throws.IndexOutOfBoundsException
            """;

    // Promise 34
    private static final String FIRST_WRONG = """
            firstWrong 0 -> -1
            tell 0 1 2
            say 0 0 0 1 0 0
            firstWrong 0 -> -1
            say 0 1 2 0 0 0
            say 0 0 1 1 0 0
            say 0 0 2 1 0 0
            firstWrong 0 -> 2
            firstWrong 1 -> -1
            takeBack 0 0
            firstWrong 0 -> 1
            unsay 0
            unsay 0
            unsay 0
            firstWrong 0 -> -1
            firstWrong 3 -> throws.IndexOutOfBoundsException
            firstWrong -1 -> throws.IndexOutOfBoundsException
            """;

    // Promise 35
    private static final String FAILS = """
            term 6 0 0 -> 6             # s(o)
            say 0 0 0 1 0 0
            fails 0 0 -> -1
            say 0 0 1 1 0 0             # o = a, with a FAULT
            fails 0 1 -> 1
            say 0 1 2 1 0 0
            fails 0 2 -> 2
            say 0 6 0 1 0 0             # s(o) = o: in the TABLE 0 so, but not with o as 1
            fails 0 3 -> 1
            say 0 0 1 8 0 0             # 4: o = a, an ASSUMPTION
            fails 0 4 -> -1
            say 0 0 2 2 4 0             # 5: o = b by it: o and a as 1, b not
            fails 0 5 -> 3
            say 0 3 4 1 0 0             # 6: x = y
            fails 0 6 -> 0
            say 0 3 0 8 0 0             # 7: x = o
            say 0 3 1 2 7 0             # 8: x = a by it
            fails 0 8 -> 1
            say 0 2 1 8 0 0             # 9: b = a
            say 0 0 2 3 4 9             # 10: o = b by 4 and 9
            fails 0 10 -> -1
            tell 0 0 1
            fails 0 1 -> -1             # in TABLES of BOOK 0 alone
            fails 0 2 -> 3
            tell 1 0 2
            fails 0 2 -> 3
            tell 0 1 2
            fails 0 2 -> -1
            fails 0 11 -> throws.IndexOutOfBoundsException
            fails 0 -1 -> throws.IndexOutOfBoundsException
            fails 1 0 -> throws.IndexOutOfBoundsException
            fails 3 0 -> throws.IndexOutOfBoundsException
            say 2 0 0 1 0 0
            keep 0 2
            line 3 0 -> throws.IndexOutOfBoundsException    # a lemma is no PROOF
            ofLine 3 0 0 -> throws.IndexOutOfBoundsException
            hangs 3 0 -> throws.IndexOutOfBoundsException
            fails 3 0 -> throws.IndexOutOfBoundsException
            """;

    // Promise 35: BUILT TABLES alone, if the line USES induction.
    private static final String FAILS_INDUCTION = """
            say 0 1 2 1 0 0             # a = b
            fails 0 0 -> 2
            say 0 1 2 9 0 0             # 1: BUILT: o as 1, s of 1 as 0
            fails 0 1 -> 3
            say 0 1 2 2 1 0
            fails 0 2 -> 3
            say 0 0 2 10 0 0
            fails 0 3 -> 1
            say 0 2 1 2 0 0
            fails 0 4 -> 2
            tell 0 0 3                  # x = o holds in no TABLE
            fails 0 0 -> -1
            takeBack 0 0
            term 6 0 0 -> 6
            tell 0 6 0                  # s(o) = o: no BUILT ones
            fails 0 0 -> 2
            fails 0 1 -> -1
            takeBack 0 1
            term 6 6 0 -> 7
            say 1 7 0 1 0 0             # s(s(o)) = o: not with o as 1, s as 0
            fails 1 0 -> 1
            say 1 7 0 11 0 0            # BUILT: the same
            fails 1 1 -> 1
            say 1 6 0 1 0 0
            fails 1 2 -> 1
            say 1 7 6 1 0 0             # s(s(o)) = s(o): not with s of 0 as 1, s of 1 as 0
            fails 1 3 -> 8
            say 1 7 6 11 0 0
            fails 1 4 -> 8
            term 6 3 0 -> 8
            term 6 8 0 -> 9
            tell 0 9 3                  # s(s(x)) = x: of BUILT ones just those with s of 0 as 1, s of 1 as 0
            say 2 0 1 9 0 0
            fails 2 0 -> 9              # o as 1
            say 2 1 1 9 0 0
            fails 2 1 -> -1
            """;

    private static final String WRONG = """
            say 0 6 6 1 0 0 -> throws.IndexOutOfBoundsException
            house 2 -> 0
            find 0 6 6 -> throws.IndexOutOfBoundsException
            fails 0 0 -> throws.IndexOutOfBoundsException
            """;
}
