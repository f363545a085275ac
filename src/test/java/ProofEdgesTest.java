/** The boundary cases of promises 26 to 35 and of "4. Proofs" as to lines, a script each. */
public final class ProofEdgesTest {
    private ProofEdgesTest() {
    }

    public static void main(String[] args) {
        Script.run("ProofEdgesTest", SAY_FULL, SAY_NUMBERS, SAY_RULE, SAY_ORDER, UNSAY, LINE_NUMBERS,
                NAMED_AHEAD, NAMED_OF_ITS_OWN, NAMED_BY_INDUCT, TOLD, TOLD_GONE, SAME, TURNED, ROW,
                WITHIN_S, WITHIN_P, WITHIN_PARTS, PUT, PUT_TERM, putLast(), PUT_PLACES, PUT_VARIABLES,
                PUT_ASSUMPTION, PUT_ASSUMPTION_OTHER, ASSUME, INDUCT_SIDES, INDUCT_BOTH_SIDES, INDUCT_ASSUMPTION,
                INDUCT_FAULTS, INDUCT_HANGS, INDUCT_FAULT_ONE, INDUCT_FIRST, INDUCT_LINE_I, LEMMA, LAWS, CLASSES,
                FAULT_ORDER, HANGS_FIRST_AND_LAST, HANGS_ALL, HANGS_NONE, USES, FIRST_WRONG, ACCEPTED,
                FIND_SAME_FULL, FIND_TOLD_FULL, FIND_TURNED_FULL, FIND_ROW_FULL, FIND_WITHIN_FULL, FIND_PAIR_FULL,
                FIND_REFUSED, FIND_NUMBERS, FIND_SMALLEST, FIND_INSIDE, FIND_INSIDE_PAIR, FIND_NOT_USED,
                SHORTEN_NONE, SHORTEN_ALL, SHORTEN_FIRST, SHORTEN_ASSUME, SHORTEN_HANGS, SHORTEN_INDUCT,
                SHORTEN_LAST, SHORTEN_NUMBERS, JOIN_EMPTY, JOIN_FULL, JOIN_ROW_FULL, JOIN_NO_ROW, JOIN_NUMBERS,
                JOIN_LEAST, JOIN_AGAIN, OF_LINE, HANGS_NUMBERS, FAILS_NUMBERS, FAILS_FIRST, FAILS_HIGH,
                FAILS_BUILT, FAILS_ASSUMPTIONS, THEOREM);
    }

    private static final String SAY_FULL = """
            ## Promise 26: the 24th line is said, the 25th is not; each PROOF has its own
            times 23 say 0 0 0 1 0 0 -> 22
            say 0 1 1 1 0 0 -> 23
            say 0 0 0 1 0 0 -> S
            say 0 0 1 14 -1 63 -> S
            house 2 -> 24
            line 0 23 -> a = a: 1 0 0
            line 0 24 -> I
            times 24 say 2 0 0 1 0 0 -> 23
            say 2 0 0 1 0 0 -> S
            say 1 0 0 1 0 0 -> 0
            house 2 -> 49
            """;

    private static final String SAY_NUMBERS = """
            ## Promise 26: PROOFS 0 to 2, sides from the first to the last TERM
            term 6 3 0 -> 6
            say 0 6 0 8 0 0 -> 0
            say 1 0 6 8 0 0 -> 0
            say 2 6 6 8 0 0 -> 0
            say 3 0 0 8 0 0 -> I
            say -1 0 0 8 0 0 -> I
            say 0 7 0 8 0 0 -> I
            say 0 0 7 8 0 0 -> I
            say 0 -1 0 8 0 0 -> I
            say 0 0 -1 8 0 0 -> I
            say 2147483647 0 0 8 0 0 -> I
            say 0 2147483647 0 8 0 0 -> I
            say 0 0 -2147483648 8 0 0 -> I
            house 2 -> 3
            """;

    private static final String SAY_RULE = """
            ## Promise 26: RULE 0 to 14, i and j -1 to 63
            say 0 0 1 0 -1 -1 -> 0
            say 0 0 1 14 63 63 -> 1
            say 0 0 1 15 0 0 -> A
            say 0 0 1 -1 0 0 -> A
            say 0 0 1 0 -2 0 -> A
            say 0 0 1 0 64 0 -> A
            say 0 0 1 0 0 -2 -> A
            say 0 0 1 0 0 64 -> A
            say 0 0 1 2147483647 0 0 -> A
            say 0 0 1 0 2147483647 0 -> A
            say 0 0 1 0 0 -2147483648 -> A
            say 0 0 0 1 64 0 -> A       # though SAME does not look at i
            say 0 0 0 8 0 -2 -> A
            house 2 -> 2
            line 0 0 -> o = a: 0 -1 -1
            line 0 1 -> o = a: 14 63 63
            """;

    private static final String SAY_ORDER = """
            ## Promise 26: no such PROOF or TERM ahead of RULE and numbers, these ahead of 24 lines
            times 24 say 0 0 0 1 0 0 -> 23
            say 3 0 0 15 64 0 -> I
            say 0 6 0 15 0 64 -> I
            say 0 0 6 -1 -2 0 -> I
            say 0 6 0 1 0 0 -> I
            say 0 0 0 15 0 0 -> A
            say 0 0 0 1 64 0 -> A
            say 0 0 0 1 0 -2 -> A
            say 0 0 0 1 0 0 -> S
            house 2 -> 24
            """;

    private static final String UNSAY = """
            ## Promise 27: the last line, from 24 down to none; then not any more
            times 24 say 0 0 0 1 0 0 -> 23
            say 1 1 1 1 0 0
            unsay 0 -> 23
            line 0 23 -> I
            line 0 22 -> o = o: 1 0 0
            say 0 2 2 1 0 0 -> 23
            say 0 2 2 1 0 0 -> S
            line 0 23 -> b = b: 1 0 0
            times 23 unsay 0 -> 1
            line 0 0 -> o = o: 1 0 0
            unsay 0 -> 0
            unsay 0 -> S
            unsay 2 -> S
            unsay 3 -> I
            unsay -1 -> I
            line 1 0 -> a = a: 1 0 0
            house 2 -> 1
            say 0 1 1 1 0 0 -> 0
            """;

    private static final String LINE_NUMBERS = """
            ## Promise 31: PROOFS 0 to 2, lines from the first to the last
            say 0 0 0 1 0 0
            say 0 3 1 5 -1 63
            say 2 2 2 14 63 -1
            line 0 0 -> o = o: 1 0 0
            line 0 1 -> x = a: 5 -1 63
            line 0 2 -> I
            line 0 -1 -> I
            line 1 0 -> I
            line 2 0 -> b = b: 14 63 -1
            line 2 1 -> I
            line 3 0 -> I
            line -1 0 -> I
            line 0 24 -> I
            line 0 2147483647 -> I
            line 0 -2147483648 -> I
            """;

    private static final String NAMED_AHEAD = """
            ## 4. Proofs: a line names lines ahead of it: the line just ahead, not itself, not a later one
            say 0 0 0 1 0 0             # 0
            say 0 0 0 2 0 0             # 1: the first one
            say 0 0 0 2 1 0             # 2: just ahead
            say 0 0 0 2 3 0             # 3: itself
            say 0 0 0 2 5 0             # 4: a later one
            say 0 0 0 2 -1 0            # 5
            say 0 0 0 3 5 5             # 6: both just ahead, though not RIGHT
            say 0 0 0 3 7 6             # 7: i itself
            say 0 0 0 3 6 8             # 8: j itself
            say 0 0 0 3 6 -1            # 9
            say 0 0 0 3 -1 6            # 10
            say 0 0 0 5 10 0            # 11: PUT, just ahead
            say 0 0 0 5 12 0            # 12: itself
            say 0 0 0 2 63 0            # 13
            ofLine 0 1 0 -> 0
            ofLine 0 2 0 -> 0
            ofLine 0 3 0 -> 1
            ofLine 0 4 0 -> 1
            ofLine 0 5 0 -> 1
            ofLine 0 6 0 -> 0
            ofLine 0 7 0 -> 1
            ofLine 0 8 0 -> 1
            ofLine 0 9 0 -> 1
            ofLine 0 10 0 -> 1
            ofLine 0 11 0 -> 0
            ofLine 0 12 0 -> 1
            ofLine 0 13 0 -> 1
            """;

    private static final String NAMED_OF_ITS_OWN = """
            ## 4. Proofs: a line names lines of its own PROOF: -1 is not the last line of the one ahead
            times 23 say 0 0 0 8 0 0 -> 22
            say 0 0 0 9 0 0             # 23: USES induction, HANGS ON 0 as it has a FAULT or not
            times 24 say 1 0 0 8 0 0 -> 23
            say 2 0 0 2 -1 0            # 0
            say 2 0 0 3 -1 -1
            say 2 0 0 5 -1 1
            say 2 0 0 9 -1 -1
            ofLine 2 0 0 -> 1
            ofLine 2 1 0 -> 1
            ofLine 2 2 0 -> 1
            ofLine 2 3 0 -> 1
            hangs 2 0 ->
            hangs 2 1 ->
            hangs 2 2 ->
            hangs 2 3 ->
            times 24 unsay 1 -> 0
            say 1 0 0 1 0 0             # 0
            term 7 0 0 -> 6
            say 1 6 6 4 0 -1            # 1: WITHIN of p
            say 1 0 0 3 0 -1            # 2
            say 1 0 0 2 -1 0            # 3
            ofLine 1 1 0 -> 1
            ofLine 1 2 0 -> 1
            ofLine 1 3 0 -> 1
            ofLine 1 3 2 -> 0           # line 23 of PROOF 0 USES induction, this one does not
            ofLine 1 2 2 -> 0
            ofLine 0 23 2 -> 1
            hangs 1 3 ->
            """;

    private static final String NAMED_BY_INDUCT = """
            ## 4. Proofs: INDUCT names both lines; FAULT 1 if one of them is not ahead
            say 0 0 1 8 0 0             # 0
            say 0 0 1 9 0 0             # 1: o = a by x: the sides without x
            say 0 0 1 9 2 0             # 2: i itself
            say 0 0 1 9 0 3             # 3: j itself
            say 0 0 1 9 -1 0
            say 0 0 1 9 0 -1
            say 0 0 1 9 5 5             # 6: just ahead, but that HANGS ON none with these sides
            ofLine 0 1 0 -> 0
            ofLine 0 2 0 -> 1
            ofLine 0 3 0 -> 1
            ofLine 0 4 0 -> 1
            ofLine 0 5 0 -> 1
            ofLine 0 6 0 -> 0
            """;

    private static final String TOLD = """
            ## 4. Proofs, TOLD: EQUATION i of BOOK 0 from the first to the last, both sides, this way round
            term 6 1 0 -> 6
            tell 0 1 2
            tell 0 6 0
            tell 1 0 0
            tell 1 0 1
            tell 1 1 2
            say 0 1 2 0 0 0             # 0
            say 0 6 0 0 1 63            # 1
            say 0 1 2 0 2 0             # 2: of BOOK 1 alone
            say 0 1 2 0 -1 0
            say 0 1 0 0 0 0             # 4: the left side alone
            say 0 0 2 0 0 0             # 5: the right side alone
            say 0 2 1 0 0 0             # 6: turned
            say 0 1 2 0 63 -1
            ofLine 0 0 0 -> 0
            ofLine 0 1 0 -> 0
            ofLine 0 2 0 -> 1
            ofLine 0 3 0 -> 1
            ofLine 0 4 0 -> 3
            ofLine 0 5 0 -> 3
            ofLine 0 6 0 -> 3
            ofLine 0 7 0 -> 1
            tell 0 1 2
            ofLine 0 2 0 -> 0           # now there is one
            times 11 tell 0 1 2 -> 13
            say 0 1 2 0 13 0
            say 0 1 2 0 14 0
            ofLine 0 8 0 -> 0
            ofLine 0 9 0 -> 1
            """;

    private static final String TOLD_GONE = """
            ## 4. Proofs, TOLD: FAULT 2 while the EQUATION is GONE, 1 when it is no more
            level 0
            tell 0 1 2
            say 0 1 2 0 0 0
            say 0 0 0 0 0 0
            ofLine 0 0 0 -> 0
            ofLine 0 1 0 -> 3
            takeBack 0 0
            ofLine 0 0 0 -> 2
            ofLine 0 1 0 -> 2
            house 3 -> 0
            back 0
            ofLine 0 0 0 -> 1
            ofLine 0 1 0 -> 1
            tell 0 0 0
            ofLine 0 0 0 -> 3
            ofLine 0 1 0 -> 0
            """;

    private static final String SAME = """
            ## 4. Proofs, SAME: t is u, with variables or not, whatever i and j
            term 6 3 0 -> 6
            say 0 6 6 1 -1 63
            say 0 6 3 1 0 0
            say 0 5 5 1 63 -1
            tell 0 1 2
            say 0 1 2 1 0 0             # LIKE is not the same
            ofLine 0 0 0 -> 0
            ofLine 0 1 0 -> 3
            ofLine 0 2 0 -> 0
            ofLine 0 3 0 -> 3
            """;

    private static final String TURNED = """
            ## 4. Proofs, TURNED: line i has both sides, turned; one of them is not enough
            say 0 1 2 8 0 0             # 0: a = b
            say 0 2 1 2 0 63
            say 0 2 0 2 0 0             # the left side alone
            say 0 0 1 2 0 0             # the right side alone
            say 0 1 2 2 0 0             # as it is
            say 0 2 2 2 0 0
            say 0 1 1 2 0 0
            ofLine 0 1 0 -> 0
            ofLine 0 2 0 -> 3
            ofLine 0 3 0 -> 3
            ofLine 0 4 0 -> 3
            ofLine 0 5 0 -> 3
            ofLine 0 6 0 -> 3
            """;

    private static final String ROW = """
            ## 4. Proofs, ROW: t of line i, u of line j, and what is between; two of three are not enough
            say 0 1 2 8 0 0             # 0: a = b
            say 0 2 0 8 0 0             # 1: b = o
            say 0 0 1 8 0 0             # 2: o = a
            say 0 1 0 3 0 1             # 3
            say 0 2 0 3 0 1             # 4: other than t
            say 0 1 2 3 0 1             # 5: other than u
            say 0 1 1 3 0 2             # 6: b is not o
            say 0 1 2 3 0 0             # 7: b is not a
            say 0 2 1 3 1 0             # 8: o is not a
            say 0 1 1 3 3 2             # 9
            say 0 1 0 3 1 0             # 10: i and j the other way
            ofLine 0 3 0 -> 0
            ofLine 0 4 0 -> 3
            ofLine 0 5 0 -> 3
            ofLine 0 6 0 -> 3
            ofLine 0 7 0 -> 3
            ofLine 0 8 0 -> 3
            ofLine 0 9 0 -> 0
            ofLine 0 10 0 -> 3
            """;

    private static final String WITHIN_S = """
            ## 4. Proofs, WITHIN of s: both left parts, t's first; j is not looked at
            term 6 1 0 -> 6             # s(a)
            term 6 2 0 -> 7             # s(b)
            term 6 0 0 -> 8             # s(o)
            say 0 1 2 8 0 0             # 0: a = b
            say 0 6 7 4 0 -1
            say 0 6 7 4 0 63
            say 0 6 8 4 0 0             # 3: t's part alone
            say 0 8 7 4 0 0             # 4: u's part alone
            say 0 7 6 4 0 0             # 5: turned
            say 0 6 7 4 6 0             # 6: line i is not ahead
            ofLine 0 1 0 -> 0
            ofLine 0 2 0 -> 0
            ofLine 0 3 0 -> 3
            ofLine 0 4 0 -> 3
            ofLine 0 5 0 -> 3
            ofLine 0 6 0 -> 1
            hangs 0 2 -> 0
            """;

    private static final String WITHIN_P = """
            ## 4. Proofs, WITHIN of p: the left parts of line i, the right parts of line j, all four
            term 7 1 2 -> 6             # p(a,b)
            term 7 2 0 -> 7             # p(b,o)
            term 7 2 2 -> 8             # p(b,b)
            term 7 0 0 -> 9             # p(o,o)
            term 7 1 1 -> 10            # p(a,a)
            say 0 1 2 8 0 0             # 0: a = b
            say 0 2 0 8 0 0             # 1: b = o
            say 0 6 7 4 0 1             # 2
            say 0 8 7 4 0 1             # 3: other than t's left part
            say 0 6 9 4 0 1             # 4: other than u's left part
            say 0 10 7 4 0 1            # 5: other than t's right part
            say 0 6 8 4 0 1             # 6: other than u's right part
            say 0 6 7 4 1 0             # 7: i and j the other way
            say 0 6 8 4 0 0             # 8
            say 0 7 6 4 0 1             # 9: turned
            say 0 10 8 4 0 0            # 10
            say 0 6 7 4 0 11            # 11: line j is not ahead
            say 0 6 7 4 12 0            # 12: line i is not ahead
            ofLine 0 2 0 -> 0
            ofLine 0 3 0 -> 3
            ofLine 0 4 0 -> 3
            ofLine 0 5 0 -> 3
            ofLine 0 6 0 -> 3
            ofLine 0 7 0 -> 3
            ofLine 0 8 0 -> 3
            ofLine 0 9 0 -> 3
            ofLine 0 10 0 -> 0
            ofLine 0 11 0 -> 1
            ofLine 0 12 0 -> 1
            hangs 0 2 -> 0 1
            """;

    private static final String WITHIN_PARTS = """
            ## 4. Proofs, WITHIN: the same SIGN, with parts; it names line i, though t has no parts: FAULT 1 first
            term 6 1 0 -> 6             # s(a)
            term 7 1 1 -> 7             # p(a,a)
            say 0 1 1 8 0 0             # 0: a = a
            say 0 0 0 4 0 0             # 1: no parts
            say 0 0 0 4 1 0             # 2: just ahead
            say 0 0 0 4 3 0             # 3: itself
            say 0 0 0 4 -1 0            # 4
            say 0 3 3 4 0 63            # 5: j is not looked at
            say 0 6 7 4 0 63            # 6: s, p: j is not looked at
            say 0 7 6 4 0 0             # 7: p, s
            say 0 7 6 4 0 8             # 8: with p line j is named
            say 0 6 1 4 0 0             # 9
            say 0 1 6 4 0 0             # 10
            ofLine 0 1 0 -> 3
            ofLine 0 2 0 -> 3
            ofLine 0 3 0 -> 1
            ofLine 0 4 0 -> 1
            ofLine 0 5 0 -> 3
            ofLine 0 6 0 -> 3
            ofLine 0 7 0 -> 3
            ofLine 0 8 0 -> 1
            ofLine 0 9 0 -> 3
            ofLine 0 10 0 -> 3
            hangs 0 1 -> 0              # as it names line i
            hangs 0 3 ->
            hangs 0 8 -> 0
            """;

    private static final String PUT = """
            ## 4. Proofs, PUT: both sides of line i; one of them is not enough
            term 7 3 0 -> 6             # p(x,o)
            put 6 3 1 -> 7              # p(a,o)
            put 6 3 2 -> 8              # p(b,o)
            tell 0 6 3
            say 0 6 3 0 0 0             # 0: p(x,o) = x
            say 0 7 1 5 0 1             # 1
            say 0 7 2 5 0 1             # 2: the left side alone
            say 0 8 1 5 0 1             # 3: the right side alone
            say 0 7 3 5 0 1             # 4: not PUT on the right
            say 0 6 1 5 0 1             # 5: not PUT on the left
            say 0 1 7 5 0 1             # 6: turned
            say 0 7 1 5 0 2             # 7: not b
            say 0 6 3 5 0 3             # 8: x for x
            ofLine 0 1 0 -> 0
            ofLine 0 2 0 -> 3
            ofLine 0 3 0 -> 3
            ofLine 0 4 0 -> 3
            ofLine 0 5 0 -> 3
            ofLine 0 6 0 -> 3
            ofLine 0 7 0 -> 3
            ofLine 0 8 0 -> 0
            """;

    private static final String PUT_TERM = """
            ## 4. Proofs, PUT: TERM j from the first to the last; FAULT 1 for none, ahead of the sides
            term 6 0 0 -> 6
            say 0 3 3 1 0 0             # 0: x = x
            say 0 0 0 5 0 0             # 1
            say 0 6 6 5 0 6             # 2: the last one
            say 0 6 6 5 0 7             # 3: none
            say 0 6 6 5 0 -1            # 4
            say 0 6 0 5 0 7             # 5: and other sides
            say 0 6 0 5 0 6             # 6: other sides alone
            say 0 1 1 6 1 63            # 7: none, though y does not stand there
            ofLine 0 1 0 -> 0
            ofLine 0 2 0 -> 0
            ofLine 0 3 0 -> 1
            ofLine 0 4 0 -> 1
            ofLine 0 5 0 -> 1
            ofLine 0 6 0 -> 3
            ofLine 0 7 0 -> 1
            term 6 6 0 -> 7
            ofLine 0 3 0 -> 3
            ofLine 0 5 0 -> 3
            """;

    private static String putLast() {
        StringBuilder text = new StringBuilder("## 4. Proofs, PUT: TERM 63, when there are 64 and when there are 63\n");
        text.append(TermEdgesTest.row(1, 6, 2));
        TermEdgesTest.appendPairs(text, 8, 63);
        text.append("say 0 3 3 1 0 0\nsay 0 0 0 5 0 63\nsay 0 62 62 5 0 62\n");
        text.append("ofLine 0 1 0 -> 1\nofLine 0 2 0 -> 0\nterm 7 7 7 -> 63\nofLine 0 1 0 -> 3\n");
        text.append("say 0 63 63 5 0 63\nofLine 0 3 0 -> 0\n");
        return text.toString();
    }

    private static final String PUT_PLACES = """
            ## 4. Proofs, PUT: at each place of the variable; a side without it stays
            term 7 3 3 -> 6             # p(x,x)
            term 7 1 3 -> 7             # p(a,x)
            term 7 3 1 -> 8             # p(x,a)
            term 7 1 1 -> 9             # p(a,a)
            tell 0 6 0
            say 0 6 0 0 0 0             # 0: p(x,x) = o
            say 0 9 0 5 0 1             # 1
            say 0 7 0 5 0 1             # 2: the left place alone
            say 0 8 0 5 0 1             # 3: the right place alone
            say 0 6 0 6 0 1             # 4: y stands nowhere
            say 0 6 0 7 0 8             # 5: z neither
            say 0 9 0 6 0 1             # 6: not x
            ofLine 0 1 0 -> 0
            ofLine 0 2 0 -> 3
            ofLine 0 3 0 -> 3
            ofLine 0 4 0 -> 0
            ofLine 0 5 0 -> 0
            ofLine 0 6 0 -> 3
            """;

    private static final String PUT_VARIABLES = """
            ## 4. Proofs, PUT for x, y, z: each RULE its own variable, at once
            term 7 3 4 -> 6             # p(x,y)
            term 7 6 5 -> 7             # p(p(x,y),z)
            put 7 3 4 -> 9              # p(p(y,y),z)
            put 7 4 3 -> 11             # p(p(x,x),z)
            put 7 5 3 -> 12             # p(p(x,y),x)
            put 7 3 6 -> 14             # p(p(p(x,y),y),z)
            say 0 7 7 1 0 0             # 0
            say 0 9 9 5 0 4             # 1
            say 0 11 11 6 0 3           # 2
            say 0 12 12 7 0 3           # 3
            say 0 14 14 5 0 6           # 4: x stands in what is PUT
            say 0 9 9 6 0 4             # 5
            say 0 11 11 5 0 3           # 6
            say 0 12 12 5 0 3           # 7
            ofLine 0 1 0 -> 0
            ofLine 0 2 0 -> 0
            ofLine 0 3 0 -> 0
            ofLine 0 4 0 -> 0
            ofLine 0 5 0 -> 3
            ofLine 0 6 0 -> 3
            ofLine 0 7 0 -> 3
            """;

    private static final String PUT_ASSUMPTION = """
            ## 4. Proofs, PUT: FAULT 5 if the variable stands on the left or on the right of an ASSUMPTION
            term 6 3 0 -> 6             # s(x)
            say 1 0 0 8 0 0             # 0: o = o
            say 1 6 0 8 0 0             # 1: s(x) = o
            say 1 0 6 8 0 0             # 2: o = s(x)
            say 1 0 4 8 0 0             # 3: o = y
            say 1 0 0 3 1 2             # 4: FAULT 3, HANGS ON 1 and 2
            say 1 0 0 5 0 1             # 5: by 0, without x
            say 1 0 0 2 1 0             # 6: HANGS ON 1
            say 1 0 0 5 6 1             # 7: x on the left
            say 1 0 0 6 6 1             # 8: y not
            say 1 0 0 2 2 0             # 9: HANGS ON 2
            say 1 0 0 5 9 1             # 10: x on the right
            say 1 0 0 7 9 1             # 11: z not
            say 1 0 0 3 0 3             # 12: HANGS ON 0 and 3
            say 1 0 0 5 12 1            # 13
            say 1 0 0 6 12 1            # 14: y stands in the second one
            ofLine 1 5 0 -> 0
            ofLine 1 7 0 -> 5
            ofLine 1 8 0 -> 0
            ofLine 1 10 0 -> 5
            ofLine 1 11 0 -> 0
            ofLine 1 13 0 -> 0
            ofLine 1 14 0 -> 5
            hangs 1 7 -> 1
            hangs 1 14 -> 0 3
            """;

    private static final String PUT_ASSUMPTION_OTHER = """
            ## 4. Proofs, PUT: ASSUMPTIONS on which line i does not HANG do not matter
            say 0 3 4 8 0 0             # 0: x = y
            say 0 3 3 1 0 0             # 1: x = x
            say 0 1 1 5 1 1             # 2
            say 0 1 4 5 0 1             # 3
            say 0 1 4 7 0 1             # 4: FAULT 3
            say 0 3 4 7 0 1             # 5
            ofLine 0 2 0 -> 0
            ofLine 0 3 0 -> 5
            ofLine 0 4 0 -> 3
            ofLine 0 5 0 -> 0
            hangs 0 2 ->
            hangs 0 3 -> 0
            """;

    private static final String ASSUME = """
            ## 4. Proofs, ASSUME: always RIGHT, HANGS ON itself alone, whatever i and j
            say 0 0 1 8 0 0
            say 0 3 3 8 0 0
            say 0 0 1 8 -1 63
            ofLine 0 0 0 -> 0
            ofLine 0 1 0 -> 0
            ofLine 0 2 0 -> 0
            hangs 0 0 -> 0
            hangs 0 1 -> 1
            hangs 0 2 -> 2
            ofLine 0 2 1 -> 1
            firstWrong 0 -> -1
            """;

    private static final String INDUCT_SIDES = """
            ## 4. Proofs, INDUCT: line i with o PUT, line j with s of the variable PUT: each side of each
            term 6 3 0 -> 6             # s(x)
            term 7 3 1 -> 7             # p(x,a)
            put 7 3 0 -> 8              # p(o,a)
            put 7 3 6 -> 9              # p(s(x),a)
            say 0 7 3 8 0 0             # 0: p(x,a) = x
            say 0 8 0 8 0 0             # 1: p(o,a) = o
            say 0 9 6 2 0 0             # 2: p(s(x),a) = s(x), HANGS ON 0
            say 0 7 3 9 1 2             # 3
            say 0 8 1 8 0 0             # 4: the left side of line i alone
            say 0 7 3 9 4 2             # 5
            say 0 1 0 8 0 0             # 6: the right side of line i alone
            say 0 7 3 9 6 2             # 7
            say 0 9 3 2 0 0             # 8: the left side of line j alone
            say 0 7 3 9 1 8             # 9
            say 0 7 6 2 0 0             # 10: the right side of line j alone
            say 0 7 3 9 1 10            # 11
            say 0 7 3 9 2 1             # 12: the other way
            say 0 7 3 10 1 2            # 13: by y
            say 0 7 3 9 0 2             # 14: o not PUT
            say 0 7 3 9 1 0             # 15: s of x not PUT
            ofLine 0 3 0 -> 0
            ofLine 0 5 0 -> 3
            ofLine 0 7 0 -> 3
            ofLine 0 9 0 -> 3
            ofLine 0 11 0 -> 3
            ofLine 0 12 0 -> 3
            ofLine 0 13 0 -> 3
            ofLine 0 14 0 -> 3
            ofLine 0 15 0 -> 3
            hangs 0 3 -> 1              # without 0
            hangs 0 5 -> 0 4            # FAULT 3: on all
            """;

    private static final String INDUCT_BOTH_SIDES = """
            ## 4. Proofs, INDUCT by x, y, z: the RULES 9, 10, 11
            term 6 3 0 -> 6
            term 6 4 0 -> 7
            term 6 5 0 -> 8
            say 0 0 0 1 0 0             # 0
            say 0 3 3 8 0 0             # 1
            say 0 6 6 4 1 0             # 2
            say 0 3 3 9 0 2             # 3
            say 0 4 4 8 0 0             # 4
            say 0 7 7 4 4 0             # 5
            say 0 4 4 10 0 5            # 6
            say 0 5 5 8 0 0             # 7
            say 0 8 8 4 7 0             # 8
            say 0 5 5 11 0 8            # 9
            say 0 3 3 10 0 2            # 10
            say 0 4 4 11 0 5
            say 0 5 5 9 0 8
            ofLine 0 3 0 -> 0
            ofLine 0 6 0 -> 0
            ofLine 0 9 0 -> 0
            ofLine 0 10 0 -> 3
            ofLine 0 11 0 -> 3
            ofLine 0 12 0 -> 3
            """;

    private static final String INDUCT_ASSUMPTION = """
            ## 4. Proofs, INDUCT: FAULT 4 without an ASSUMPTION t = u on which line j HANGS: both sides
            term 6 3 0 -> 6             # s(x)
            say 0 0 0 1 0 0             # 0: o = o
            say 0 6 6 1 0 0             # 1: by no ASSUMPTION
            say 0 3 3 9 0 1             # 2
            say 0 3 4 8 0 0             # 3: x = y
            say 0 6 6 2 3 0             # 4: HANGS ON 3: FAULT 3 of its own
            say 0 3 3 9 0 4             # 5: the left side alone
            say 0 4 3 8 0 0             # 6: y = x
            say 0 6 6 2 6 0             # 7
            say 0 3 3 9 0 7             # 8: the right side alone
            say 0 3 3 8 0 0             # 9: x = x, but line j HANGS ON it not
            say 0 3 3 9 0 1             # 10
            say 0 3 3 9 9 1             # 11: FAULT 3 ahead of 4: line i is x = x
            say 0 6 6 4 9 0             # 12
            say 0 3 3 9 0 12            # 13
            ofLine 0 2 0 -> 4
            ofLine 0 5 0 -> 4           # though x stands in another one
            ofLine 0 8 0 -> 4
            ofLine 0 10 0 -> 4
            ofLine 0 11 0 -> 3
            ofLine 0 13 0 -> 0
            hangs 0 2 ->
            hangs 0 5 -> 3
            hangs 0 8 -> 6
            hangs 0 11 -> 9
            hangs 0 13 ->
            """;

    private static final String INDUCT_FAULTS = """
            ## 4. Proofs, INDUCT: FAULT 5 if x stands in another ASSUMPTION of line j, or in one of line i
            term 6 3 0 -> 6             # s(x)
            say 0 0 0 1 0 0             # 0: o = o
            say 0 3 3 8 0 0             # 1: x = x
            say 0 3 0 8 0 0             # 2: x = o
            say 0 0 4 8 0 0             # 3: o = y
            say 0 6 6 3 1 2             # 4: HANGS ON 1 and 2
            say 0 3 3 9 0 4             # 5
            say 0 6 6 3 1 3             # 6: HANGS ON 1 and 3
            say 0 3 3 9 0 6             # 7: no x in 3
            say 0 0 0 2 2 0             # 8: HANGS ON 2
            say 0 6 6 2 1 0             # 9: HANGS ON 1
            say 0 3 3 9 8 9             # 10
            say 0 0 0 2 3 0             # 11: HANGS ON 3
            say 0 3 3 9 11 9            # 12
            say 0 0 0 2 1 0             # 13: HANGS ON 1, that has x
            say 0 3 3 9 13 9            # 14
            ofLine 0 5 0 -> 5
            ofLine 0 7 0 -> 0
            ofLine 0 10 0 -> 5
            ofLine 0 12 0 -> 0
            ofLine 0 14 0 -> 5
            hangs 0 5 -> 2              # with FAULT 5 without 1, as a RIGHT one
            hangs 0 7 -> 3
            hangs 0 10 -> 2
            hangs 0 12 -> 3
            hangs 0 14 -> 1             # of line i it stays
            """;

    private static final String INDUCT_HANGS = """
            ## 4. Proofs, INDUCT: RIGHT or FAULT 5 without the ASSUMPTION; FAULTS 1, 3 and 4 with all
            term 6 3 0 -> 6
            term 6 4 0 -> 7
            say 0 0 0 1 0 0             # 0
            say 0 3 3 8 0 0             # 1: x = x
            say 0 0 1 8 0 0             # 2: o = a
            say 0 6 6 3 1 2             # 3: s(x) = s(x), HANGS ON 1 and 2
            say 0 3 3 9 0 3             # 4: RIGHT
            say 0 3 3 10 0 3            # 5: FAULT 3
            say 0 3 3 9 30 3            # 6: FAULT 1, of line i
            say 0 3 3 9 3 30            # 7: FAULT 1, of line j
            say 0 4 4 9 0 3             # 8: FAULT 3
            say 0 6 6 2 2 0             # 9: HANGS ON 2
            say 0 3 3 9 0 9             # 10: FAULT 4
            ofLine 0 4 0 -> 0
            ofLine 0 5 0 -> 3
            ofLine 0 6 0 -> 1
            ofLine 0 7 0 -> 1
            ofLine 0 8 0 -> 3
            ofLine 0 10 0 -> 4
            hangs 0 4 -> 2
            hangs 0 5 -> 1 2
            hangs 0 6 -> 1 2            # line j's
            hangs 0 7 -> 1 2            # line i's
            hangs 0 8 -> 1 2
            hangs 0 10 -> 2
            """;

    private static final String INDUCT_FAULT_ONE = """
            ## 4. Proofs, INDUCT: a FAULT 1 goes ahead of all others; neither line ahead
            say 0 3 3 9 0 0             # 0: the first line of a PROOF
            say 0 3 3 8 0 0
            say 0 3 3 9 -1 -1
            say 0 4 0 9 1 9
            ofLine 0 0 0 -> 1
            ofLine 0 2 0 -> 1
            ofLine 0 3 0 -> 1
            hangs 0 0 ->
            hangs 0 2 ->
            hangs 0 3 -> 1
            ofLine 0 0 2 -> 1           # it USES induction all the same
            ofLine 0 2 2 -> 1
            """;

    private static final String INDUCT_FIRST = """
            ## 4. Proofs, INDUCT: of several such ASSUMPTIONS the first goes, the others stay
            say 0 1 2 8 0 0             # 0: a = b, without x
            say 0 1 2 8 0 0             # 1
            say 0 1 2 8 0 0             # 2
            say 0 1 2 3 1 2             # 3: HANGS ON 1 and 2
            say 0 1 2 3 0 3             # 4: HANGS ON all three
            tell 0 1 2
            say 0 1 2 0 0 0             # 5
            say 0 1 2 9 5 3             # 6
            say 0 1 2 9 5 4             # 7
            say 0 1 2 9 1 4             # 8: line i HANGS ON 1
            say 0 1 2 9 0 4             # 9: line i HANGS ON 0
            ofLine 0 3 0 -> 3
            ofLine 0 6 0 -> 0
            ofLine 0 7 0 -> 0
            ofLine 0 8 0 -> 0
            ofLine 0 9 0 -> 0
            hangs 0 6 -> 2
            hangs 0 7 -> 1 2
            hangs 0 8 -> 1 2
            hangs 0 9 -> 0 1 2
            """;

    private static final String INDUCT_LINE_I = """
            ## 4. Proofs, INDUCT: line i need HANG ON none; line i and line j may be the same
            say 0 0 1 8 0 0             # 0: o = a
            say 0 0 1 11 0 0            # 1
            say 0 0 1 11 1 0            # 2
            say 0 1 2 11 0 0            # 3: other sides
            ofLine 0 1 0 -> 0
            ofLine 0 2 0 -> 0
            ofLine 0 3 0 -> 3
            hangs 0 1 -> 0              # line i HANGS ON it
            hangs 0 2 -> 0
            """;

    private static final String LEMMA = """
            ## 4. Proofs, LEMMA: names 0 to 5, both sides of its last line; what STANDS
            tell 0 1 2
            say 0 2 1 8 0 0
            say 0 1 2 0 0 0
            keep 0 0
            keep 5 0
            say 1 1 2 12 0 63           # 0
            say 1 1 2 12 5 -1           # 1
            say 1 1 2 12 6 0            # 2
            say 1 1 2 12 -1 0           # 3
            say 1 1 2 12 1 0            # 4: no lemma of this name
            say 1 1 0 12 0 0            # 5: the left side alone
            say 1 0 2 12 0 0            # 6: the right side alone
            say 1 2 1 12 0 0            # 7: turned, or the first line
            ofLine 1 0 0 -> 0
            ofLine 1 1 0 -> 0
            ofLine 1 2 0 -> 1
            ofLine 1 3 0 -> 1
            ofLine 1 4 0 -> 1
            ofLine 1 5 0 -> 3
            ofLine 1 6 0 -> 3
            ofLine 1 7 0 -> 3
            takeBack 0 0
            ofLine 1 0 0 -> 2
            ofLine 1 5 0 -> 2
            drop 0
            ofLine 1 0 0 -> 1
            ofLine 1 1 0 -> 2
            hangs 1 0 ->
            """;

    private static final String LAWS = """
            ## 4. Proofs, LAWS: by LAWS of BOOK 0 that hold now
            term 7 1 2 -> 6
            term 7 2 1 -> 7
            term 7 6 0 -> 8             # p(p(a,b),o)
            term 7 2 0 -> 9
            term 7 1 9 -> 10            # p(a,p(b,o))
            say 0 6 7 13 -1 63          # 0
            say 0 8 10 13 0 0           # 1
            say 0 6 6 13 0 0            # 2
            say 0 6 9 13 0 0            # 3
            law 1 1 1
            ofLine 0 0 0 -> 3
            ofLine 0 1 0 -> 3
            ofLine 0 2 0 -> 0
            law 0 1 0
            ofLine 0 0 0 -> 0
            ofLine 0 1 0 -> 3
            law 0 0 1
            ofLine 0 0 0 -> 3
            ofLine 0 1 0 -> 0
            law 0 1 1
            ofLine 0 0 0 -> 0
            ofLine 0 1 0 -> 0
            ofLine 0 3 0 -> 3
            hangs 0 0 ->
            """;

    private static final String CLASSES = """
            ## 4. Proofs, CLASSES: BARE both, LIKE by BOOK 0 now
            term 6 1 0 -> 6
            term 6 2 0 -> 7
            term 6 3 0 -> 8
            tell 1 0 1
            say 0 6 7 14 -1 63          # 0
            say 0 6 6 14 0 0            # 1
            say 0 8 8 14 0 0            # 2: the same, but not BARE
            say 0 0 1 14 0 0            # 3: LIKE by BOOK 1
            say 0 3 3 14 0 0            # 4
            say 0 6 8 14 0 0            # 5
            say 0 8 6 14 0 0            # 6
            ofLine 0 0 0 -> 3
            ofLine 0 1 0 -> 0
            ofLine 0 2 0 -> 3
            ofLine 0 3 0 -> 3
            ofLine 0 4 0 -> 3
            ofLine 0 5 0 -> 3
            ofLine 0 6 0 -> 3
            tell 0 1 2
            ofLine 0 0 0 -> 0
            takeBack 0 0
            ofLine 0 0 0 -> 3
            """;

    private static final String FAULT_ORDER = """
            ## 4. Proofs: FAULT, the first that applies
            term 6 3 0 -> 6             # s(x)
            level 0
            tell 0 1 2
            takeBack 0 0
            say 0 3 3 8 0 0             # 0: x = x
            say 0 0 1 0 1 0             # 1: no EQUATION (1), other sides
            say 0 0 1 0 0 0             # 2: GONE (2), other sides
            say 0 0 1 2 9 0             # 3: not ahead (1), other sides
            say 0 0 1 5 9 1             # 4: not ahead (1), other sides
            say 0 0 1 5 0 63            # 5: no TERM (1), other sides, x in the ASSUMPTION
            say 0 0 1 5 0 1             # 6: other sides (3), x in the ASSUMPTION
            say 0 1 1 5 0 1             # 7: x in the ASSUMPTION (5)
            say 0 0 1 12 0 0            # 8: no lemma (1), other sides
            say 0 3 3 9 0 0             # 9: other sides (3), x in the ASSUMPTION of line i
            say 0 0 0 1 0 0             # 10
            say 0 6 0 8 0 0             # 11: s(x) = o
            say 0 6 6 2 11 0            # 12: HANGS ON 11
            say 0 3 3 9 10 12           # 13: none such (4), x in the ASSUMPTION
            ofLine 0 1 0 -> 1
            ofLine 0 2 0 -> 2
            ofLine 0 3 0 -> 1
            ofLine 0 4 0 -> 1
            ofLine 0 5 0 -> 1
            ofLine 0 6 0 -> 3
            ofLine 0 7 0 -> 5
            ofLine 0 8 0 -> 1
            ofLine 0 9 0 -> 3
            ofLine 0 13 0 -> 4
            """;

    private static final String HANGS_FIRST_AND_LAST = """
            ## Promise 33: the first line of 24 and the last one
            say 2 0 0 8 0 0
            times 22 say 2 0 0 1 0 0 -> 22
            say 2 0 0 8 0 0
            hangs 2 0 -> 0
            hangs 2 1 ->
            hangs 2 23 -> 23
            ofLine 2 23 1 -> 1
            unsay 2
            say 2 0 0 3 0 22
            hangs 2 23 -> 0
            ofLine 2 23 0 -> 0
            """;

    private static final String HANGS_ALL = """
            ## Promises 32 and 33: as many ASSUMPTIONS as a line of 24 can HANG ON
            times 12 say 0 0 0 8 0 0 -> 11
            say 0 0 0 3 0 1
            say 0 0 0 3 12 2
            say 0 0 0 3 13 3
            say 0 0 0 3 14 4
            say 0 0 0 3 15 5
            say 0 0 0 3 16 6
            say 0 0 0 3 17 7
            say 0 0 0 3 18 8
            say 0 0 0 3 19 9
            say 0 0 0 3 20 10
            say 0 0 0 3 21 11
            say 0 0 0 8 0 0
            hangs 0 22 -> 0 1 2 3 4 5 6 7 8 9 10 11
            ofLine 0 22 1 -> 12
            hangs 0 23 -> 23
            firstWrong 0 -> -1
            keep 0 0 -> -9
            """;

    private static final String HANGS_NONE = """
            ## Promise 33: "" for lines that name none, or none that is ahead
            say 0 0 1 8 0 0
            say 0 0 0 1 0 0
            say 0 0 0 0 0 0
            say 0 0 0 12 0 0
            say 0 0 0 13 0 0
            say 0 0 0 14 0 0
            say 0 0 0 2 6 0
            say 0 0 0 5 1 0
            say 0 0 0 6 0 0
            hangs 0 1 ->
            hangs 0 2 ->
            hangs 0 3 ->
            hangs 0 4 ->
            hangs 0 5 ->
            hangs 0 6 ->
            hangs 0 7 ->
            hangs 0 8 -> 0
            ofLine 0 7 1 -> 0
            """;

    private static final String USES = """
            ## 4. Proofs: which lines USE induction: INDUCT, what names one ahead, LEMMA of a lemma with one
            say 0 0 1 9 0 0             # 0: INDUCT, whatever its FAULT
            say 0 1 0 2 0 0             # 1
            say 0 0 0 3 5 1             # 2: by line j, line i is not ahead
            say 0 0 0 3 1 5             # 3
            say 0 0 0 2 5 0             # 4: names line 5, that is not ahead
            say 0 0 0 10 63 63          # 5
            say 0 0 0 1 5 5             # 6: names none
            say 0 0 0 8 5 5             # 7
            say 0 0 0 5 5 5             # 8
            say 0 0 0 4 6 5             # 9: WITHIN of o does not name line j
            say 0 0 0 4 5 6             # 10
            say 0 0 0 14 5 5            # 11
            say 0 0 0 11 -1 -1          # 12
            ofLine 0 0 2 -> 1
            ofLine 0 1 2 -> 1
            ofLine 0 2 2 -> 1
            ofLine 0 3 2 -> 1
            ofLine 0 4 2 -> 0
            ofLine 0 5 2 -> 1
            ofLine 0 6 2 -> 0
            ofLine 0 7 2 -> 0
            ofLine 0 8 2 -> 1
            ofLine 0 9 2 -> 0
            ofLine 0 10 2 -> 1
            ofLine 0 11 2 -> 0
            ofLine 0 12 2 -> 1
            say 1 0 0 8 0 0
            say 1 0 0 11 0 0
            say 1 1 1 1 0 0
            keep 0 1 -> 0
            keep 5 1 -> 0
            say 2 1 1 12 0 0            # the first line
            say 2 1 1 12 5 0
            say 2 1 1 12 4 0
            ofLine 2 0 2 -> 1
            ofLine 2 1 2 -> 1
            ofLine 2 2 2 -> 0
            """;

    private static final String FIRST_WRONG = """
            ## Promise 34: the first line, the last one, none; the first of several
            say 0 0 0 1 0 0
            firstWrong 0 -> -1
            times 22 say 0 0 0 1 0 0 -> 22
            say 0 0 1 1 0 0
            firstWrong 0 -> 23
            unsay 0
            firstWrong 0 -> -1
            say 1 0 1 1 0 0
            firstWrong 1 -> 0
            say 1 0 0 1 0 0
            say 1 0 1 1 0 0
            firstWrong 1 -> 0
            firstWrong 2 -> -1
            firstWrong 3 -> I
            firstWrong -1 -> I
            """;

    private static final String ACCEPTED = """
            ## 4. Proofs: ACCEPTED, if it has lines, and all are RIGHT
            house 3 -> 0
            say 0 0 1 8 0 0
            house 3 -> 1
            say 1 0 0 1 0 0
            say 2 0 0 1 0 0
            house 3 -> 3
            say 2 0 1 1 0 0
            house 3 -> 2
            say 2 0 0 1 0 0
            house 3 -> 2
            unsay 1
            house 3 -> 1
            """;

    private static final String FIND_SAME_FULL = """
            ## Promise 28: a SAME line as the 24th, not as the 25th
            find 0 1 1 -> 1
            line 0 0 -> a = a: 1 0 0
            times 22 find 0 2 2 -> 23
            find 0 0 0 -> 24
            find 0 0 0 -> -9
            line 0 23 -> o = o: 1 0 0
            house 2 -> 24
            """;

    private static final String FIND_TOLD_FULL = """
            ## Promise 28: a TOLD line as the 24th, not as the 25th
            tell 0 1 2
            times 23 say 0 0 0 1 0 0
            find 0 1 2 -> 24
            line 0 23 -> a = b: 0 0 0
            find 0 1 2 -> -9
            house 2 -> 24
            """;

    private static final String FIND_TURNED_FULL = """
            ## Promise 28: TOLD and TURNED: two lines have place or none is said
            tell 0 1 2
            times 22 say 0 0 0 1 0 0
            find 0 2 1 -> 24
            line 0 22 -> a = b: 0 0 0
            line 0 23 -> b = a: 2 22 0
            unsay 0 -> 23
            find 0 2 1 -> -9
            house 2 -> 23
            line 0 22 -> a = b: 0 0 0
            line 0 23 -> I
            find 0 1 2 -> 24
            """;

    private static final String FIND_ROW_FULL = """
            ## Promise 28: two TOLD and a ROW: three lines have place or none is said
            tell 0 1 2
            tell 0 2 0
            times 21 say 0 0 0 1 0 0
            find 0 1 0 -> 24
            line 0 23 -> a = o: 3 21 22
            unsay 0 -> 23
            find 0 1 0 -> -9
            unsay 0 -> 22
            find 0 1 0 -> -9
            house 2 -> 22
            line 0 22 -> I
            unsay 0 -> 21
            find 0 1 0 -> 24
            """;

    private static final String FIND_WITHIN_FULL = """
            ## Promise 28: TOLD and WITHIN: two lines have place or none is said
            term 6 1 0 -> 6
            term 6 2 0 -> 7
            tell 0 1 2
            times 22 say 0 0 0 1 0 0
            find 0 6 7 -> 24
            line 0 23 -> s(a) = s(b): 4 22 0
            unsay 0 -> 23
            find 0 6 7 -> -9
            house 2 -> 23
            times 24 say 1 0 0 1 0 0
            find 1 6 7 -> -9
            house 2 -> 47
            """;

    private static final String FIND_PAIR_FULL = """
            ## Promise 28: TOLD, SAME and WITHIN of p: three lines have place or none is said
            term 7 1 0 -> 6
            term 7 2 0 -> 7
            tell 0 1 2
            times 21 say 0 0 0 1 0 0
            find 0 6 7 -> 24
            line 0 21 -> a = b: 0 0 0
            line 0 22 -> o = o: 1 0 0
            line 0 23 -> p(a,o) = p(b,o): 4 21 22
            unsay 0 -> 23
            find 0 6 7 -> -9
            unsay 0 -> 22
            find 0 6 7 -> -9
            house 2 -> 22
            line 0 22 -> I
            find 1 6 7 -> 3
            line 1 2 -> p(a,o) = p(b,o): 4 0 1
            """;

    private static final String FIND_REFUSED = """
            ## Promise 28: -9 if they are not LIKE by BOOK 0; exceptions ahead of it
            tell 1 1 2
            tell 0 0 1
            takeBack 0 0
            find 0 1 2 -> -9
            find 0 0 1 -> -9
            find 0 0 2 -> -9
            house 2 -> 0
            times 24 say 0 0 0 1 0 0
            find 0 0 1 -> -9
            find 0 3 3 -> A
            find 0 0 6 -> I
            find 3 0 1 -> I
            find 2 0 0 -> 1
            """;

    private static final String FIND_NUMBERS = """
            ## Promise 28: PROOFS 0 to 2, TERMS from the first to the last, BARE ones
            term 6 0 0 -> 6
            find 2 6 6 -> 1
            find 3 0 0 -> I
            find -1 0 0 -> I
            find 0 7 0 -> I
            find 0 0 7 -> I
            find 0 -1 0 -> I
            find 0 0 -1 -> I
            find 0 3 0 -> A
            find 0 0 5 -> A
            find 0 3 7 -> I
            find 0 7 3 -> I
            find 3 3 0 -> I
            house 2 -> 1
            """;

    private static final String FIND_SMALLEST = """
            ## 4. Proofs, FOUND: of several EQUATIONS that with the smallest number, either way, not GONE
            tell 0 0 1                  # 0
            tell 0 1 0                  # 1
            tell 0 0 1                  # 2
            find 0 0 1 -> 1
            line 0 0 -> o = a: 0 0 0
            takeBack 0 0
            find 0 0 1 -> 3
            line 0 1 -> a = o: 0 1 0
            line 0 2 -> o = a: 2 1 0
            find 0 1 0 -> 4
            line 0 3 -> a = o: 0 1 0
            takeBack 0 1
            find 0 0 1 -> 5
            line 0 4 -> o = a: 0 2 0
            """;

    private static final String FIND_INSIDE = """
            ## 4. Proofs, FOUND: a longer PATH of the parts inside, and the PATH goes on behind it
            term 6 1 0 -> 6             # s(a)
            term 6 0 0 -> 7             # s(o)
            term 7 0 0 -> 8
            tell 0 1 2                  # a = b
            tell 0 2 0                  # b = o
            tell 0 7 8                  # s(o) = p(o,o)
            path 0 6 8 -> 6 7 8
            find 1 6 8 -> 6
            line 1 0 -> a = b: 0 0 0
            line 1 1 -> b = o: 0 1 0
            line 1 2 -> a = o: 3 0 1
            line 1 3 -> s(a) = s(o): 4 2 0
            line 1 4 -> s(o) = p(o,o): 0 2 0
            line 1 5 -> s(a) = p(o,o): 3 3 4
            firstWrong 1 -> -1
            """;

    private static final String FIND_INSIDE_PAIR = """
            ## 4. Proofs, FOUND: longer PATHS of both parts of a p inside, and the PATH goes on behind it
            term 7 1 0 -> 6             # p(a,o)
            term 7 0 1 -> 7             # p(o,a)
            term 6 0 0 -> 8             # s(o)
            tell 0 1 2                  # a = b
            tell 0 2 0                  # b = o
            tell 0 7 8                  # p(o,a) = s(o)
            path 0 6 8 -> 6 7 8
            find 2 6 8 -> 11
            line 2 0 -> a = b: 0 0 0
            line 2 1 -> b = o: 0 1 0
            line 2 2 -> a = o: 3 0 1
            line 2 3 -> b = o: 0 1 0
            line 2 4 -> o = b: 2 3 0
            line 2 5 -> a = b: 0 0 0
            line 2 6 -> b = a: 2 5 0
            line 2 7 -> o = a: 3 4 6
            line 2 8 -> p(a,o) = p(o,a): 4 2 7
            line 2 9 -> p(o,a) = s(o): 0 2 0
            line 2 10 -> p(a,o) = s(o): 3 8 9
            firstWrong 2 -> -1
            """;

    private static final String FIND_NOT_USED = """
            ## 4. Proofs, FOUND: lines that are there are not used, be they RIGHT or not; no EQUATION with variables
            term 6 3 0 -> 6
            tell 0 6 6
            tell 0 1 2
            say 0 1 2 0 1 0
            say 0 1 0 1 0 0
            find 0 1 2 -> 3
            line 0 2 -> a = b: 0 1 0
            line 0 1 -> a = o: 1 0 0
            firstWrong 0 -> 1
            """;

    private static final String SHORTEN_NONE = """
            ## Promise 29: -9 without lines, or with one that is not RIGHT; 0 if none goes
            shorten 0 -> -9
            say 0 0 0 1 0 0
            shorten 0 -> 0
            line 0 0 -> o = o: 1 0 0
            say 0 0 1 1 0 0
            say 0 0 0 1 0 0
            shorten 0 -> -9
            house 2 -> 3
            line 0 2 -> o = o: 1 0 0
            shorten 1 -> -9
            shorten 3 -> I
            shorten -1 -> I
            say 2 0 1 8 0 0
            shorten 2 -> 0
            """;

    private static final String SHORTEN_ALL = """
            ## Promise 29: of 24 lines one stays, or all of them do
            times 23 say 0 0 0 8 0 0 -> 22
            say 0 1 1 1 0 0
            shorten 0 -> 23
            line 0 0 -> a = a: 1 0 0
            house 2 -> 1
            times 24 say 1 0 0 1 0 0
            shorten 1 -> 23
            line 1 0 -> o = o: 1 0 0
            say 2 1 2 8 0 0
            say 2 2 1 8 0 0
            say 2 1 1 3 0 1
            say 2 2 2 3 1 0
            shorten 2 -> 1
            line 2 0 -> a = b: 8 0 0
            line 2 1 -> b = a: 8 0 0
            line 2 2 -> b = b: 3 1 0
            """;

    private static final String SHORTEN_FIRST = """
            ## 4. Proofs, SHORT: the first line ahead that stands for itself, with both sides the same
            tell 0 1 2
            say 0 1 1 1 0 0             # 0: the left side alone
            say 0 2 2 1 0 0             # 1: the right side alone
            say 0 1 2 0 0 0             # 2
            say 0 1 2 3 0 2             # 3: 2 stands for it
            say 0 1 2 3 3 1             # 4: 2 stands for it
            say 0 2 1 2 4 0             # 5: of 2
            shorten 0 -> 4
            line 0 0 -> a = b: 0 0 0
            line 0 1 -> b = a: 2 0 0
            """;

    private static final String SHORTEN_ASSUME = """
            ## 4. Proofs, SHORT: an ASSUME line stands for itself, and for others that HANG ON it alone
            say 0 1 1 1 0 0             # 0
            say 0 1 2 8 0 0             # 1
            say 0 1 2 8 0 0             # 2: the same, but for itself
            say 0 1 2 3 0 2             # 3: 2 stands for it, not 1
            say 0 2 1 2 1 0             # 4: of 1
            say 0 1 1 3 3 4             # 5: of 2 and 4
            shorten 0 -> 2
            line 0 0 -> a = b: 8 0 0
            line 0 1 -> a = b: 8 0 0
            line 0 2 -> b = a: 2 0 0
            line 0 3 -> a = a: 3 1 2
            hangs 0 3 -> 0 1
            """;

    private static final String SHORTEN_HANGS = """
            ## 4. Proofs, SHORT: not a line that HANGS ON fewer ASSUMPTIONS, or on more
            say 0 1 1 1 0 0             # 0: a = a by none
            say 0 1 1 8 0 0             # 1: a = a
            say 0 1 1 3 0 1             # 2: by 1: line 1 stands for it
            say 0 0 0 8 0 0             # 3: o = o
            say 0 0 0 1 0 0             # 4: o = o by none
            say 0 0 0 3 3 4             # 5: by 3: line 3 stands for it
            term 7 1 0 -> 6
            say 0 6 6 4 2 5             # 6: by 1 and 3
            say 0 6 6 1 0 0             # 7: by none
            say 0 6 6 3 7 6             # 8: by 1 and 3: line 6 stands for it
            shorten 0 -> 6
            line 0 0 -> a = a: 8 0 0
            line 0 1 -> o = o: 8 0 0
            line 0 2 -> p(a,o) = p(a,o): 4 0 1
            """;

    private static final String SHORTEN_INDUCT = """
            ## 4. Proofs, SHORT: INDUCT lines keep both lines that they name, and the ASSUMPTION of these
            term 6 3 0 -> 6
            say 0 2 2 1 0 0             # 0: goes
            say 0 0 0 1 0 0             # 1
            say 0 3 3 8 0 0             # 2
            say 0 0 0 1 5 5             # 3: 1 stands for it
            say 0 6 6 4 2 9             # 4
            say 0 3 3 9 3 4             # 5
            shorten 0 -> 2
            line 0 0 -> o = o: 1 0 0
            line 0 1 -> x = x: 8 0 0
            line 0 2 -> s(x) = s(x): 4 1 9
            line 0 3 -> x = x: 9 0 2
            firstWrong 0 -> -1
            hangs 0 3 ->
            """;

    private static final String SHORTEN_LAST = """
            ## 4. Proofs, SHORT: only the line that stands for the last one stays, with all that it names
            tell 0 1 2
            say 0 1 2 0 0 0             # 0
            say 0 2 1 2 0 0             # 1
            say 0 1 1 3 0 1             # 2
            say 0 1 2 0 0 0             # 3: 0 stands for it
            shorten 0 -> 3
            line 0 0 -> a = b: 0 0 0
            say 0 2 1 2 0 0             # 1
            say 0 1 1 3 0 1             # 2
            say 0 0 0 1 0 0             # 3
            say 0 1 1 1 0 0             # 4: 2 stands for it
            shorten 0 -> 2
            line 0 2 -> a = a: 3 0 1
            line 0 3 -> I
            """;

    private static final String SHORTEN_NUMBERS = """
            ## 4. Proofs, SHORT: i and j that name no line stay as they are, beyond 24 as well
            tell 0 0 0
            tell 0 1 1
            law 0 1 1
            say 0 2 2 1 0 0             # 0: goes
            say 0 1 1 0 1 63            # 1: TOLD
            say 0 0 0 14 -1 1           # 2: CLASSES
            term 7 1 0 -> 6
            say 0 6 6 4 1 2             # 3
            term 7 6 6 -> 7
            say 0 7 7 13 1 0            # 4: LAWS
            say 0 7 7 5 4 0             # 5: PUT, TERM 0; 4 stands for it
            term 6 7 0 -> 8
            say 0 8 8 4 5 63            # 6
            shorten 0 -> 5
            line 0 0 -> p(p(a,o),p(a,o)) = p(p(a,o),p(a,o)): 13 1 0
            line 0 1 -> s(p(p(a,o),p(a,o))) = s(p(p(a,o),p(a,o))): 4 0 63
            """;

    private static final String JOIN_EMPTY = """
            ## Promise 30: without own lines, without those of the other PROOF, without both: no ROW line
            join 0 1 -> 0
            times 24 say 0 0 0 1 0 0 -> 23
            join 0 1 -> 24
            join 1 0 -> 24              # not 25, as no own line is the last one
            line 1 23 -> o = o: 1 0 0
            times 24 unsay 1 -> 0
            say 2 0 1 8 0 0
            join 1 2 -> 1               # nor with the last line of PROOF 0
            line 1 0 -> o = a: 8 0 0
            times 24 unsay 0 -> 0
            join 2 0 -> 1               # nor with a line that was there
            line 2 0 -> o = a: 8 0 0
            unsay 1
            join 1 2 -> 1
            house 2 -> 2
            """;

    private static final String JOIN_FULL = """
            ## Promise 30: 24 lines without a ROW line, not 25
            times 23 say 0 0 0 1 0 0 -> 22
            say 1 1 1 1 0 0
            join 0 1 -> 24
            join 0 1 -> -9
            unsay 0 -> 23
            say 1 1 1 1 0 0
            join 0 1 -> -9              # 25
            join 1 0 -> -9
            house 2 -> 25
            line 0 23 -> I
            line 1 2 -> I
            times 24 say 2 2 2 1 0 0
            join 0 2 -> -9
            join 2 0 -> -9
            house 2 -> 49
            """;

    private static final String JOIN_ROW_FULL = """
            ## Promise 30: 24 lines with the ROW line, not 25
            times 22 say 0 0 1 8 0 0 -> 21
            say 1 1 2 8 0 0
            join 0 1 -> 24
            line 0 23 -> o = b: 3 21 22
            unsay 0 -> 23
            unsay 0 -> 22
            say 0 0 1 8 0 0
            join 0 1 -> -9              # 24 and the ROW line
            house 2 -> 24
            line 0 22 -> o = a: 8 0 0
            line 0 23 -> I
            line 1 0 -> a = b: 8 0 0
            """;

    private static final String JOIN_NO_ROW = """
            ## Promise 30: a ROW line, if the last own line ends with what the last line of the other one starts with
            say 0 0 1 8 0 0
            say 0 1 2 8 0 0             # the last: a = b
            say 1 2 0 8 0 0             # b = o, but not the last
            say 1 1 2 8 0 0             # the last: a = b
            join 0 1 -> 4
            unsay 0
            unsay 0
            unsay 1
            join 0 1 -> 4               # b = o is the last now
            line 0 3 -> a = o: 3 1 2
            join 1 0 -> 5               # b = o, a = o: none
            new
            say 0 1 2 8 0 0
            say 1 1 2 8 0 0
            say 2 0 1 8 0 0
            join 0 1 -> 2               # starts with the same
            join 2 1 -> 3
            line 2 2 -> o = b: 3 0 1
            new
            say 0 2 1 8 0 0
            say 1 0 1 8 0 0
            join 0 1 -> 2               # ends with the same
            """;

    private static final String JOIN_NUMBERS = """
            ## Promise 30: PROOFS 0 to 2, two of them; no such PROOF ahead of both the same
            say 2 0 1 8 0 0
            join 0 2 -> 1
            join 2 1 -> 1
            join 3 0 -> I
            join 0 3 -> I
            join -1 0 -> I
            join 0 -1 -> I
            join 3 3 -> I
            join -1 -1 -> I
            join 0 0 -> A
            join 1 1 -> A
            join 2 2 -> A
            times 23 say 0 0 0 1 0 0
            join 0 0 -> A               # ahead of -9
            house 2 -> 25
            """;

    private static final String JOIN_LEAST = """
            ## Promise 30: a number that names a line grows, whatever it is: -1, then it may be one that is ahead
            say 0 0 0 8 0 0
            say 0 2 1 8 0 0
            say 1 1 2 2 -1 -1           # names none in PROOF 1
            say 1 0 0 3 63 -1
            say 1 1 1 1 -1 -1
            say 1 1 1 0 63 63
            ofLine 1 0 0 -> 1
            join 0 1 -> 7
            line 0 2 -> a = b: 2 1 -1   # now line 1
            line 0 3 -> o = o: 3 65 1
            line 0 4 -> a = a: 1 -1 -1
            line 0 5 -> a = a: 0 63 63
            line 0 6 -> b = a: 3 1 5    # b = a, a = a
            ofLine 0 2 0 -> 0
            hangs 0 2 -> 1
            ofLine 0 3 0 -> 1
            ofLine 0 3 6 -> 65
            hangs 0 3 -> 1
            ofLine 1 0 0 -> 1           # the other PROOF stays as it is
            line 1 0 -> a = b: 2 -1 -1
            """;

    private static final String JOIN_AGAIN = """
            ## Promise 30: numbers beyond 63 grow again; a joined line is taken away as any other
            say 0 0 0 8 0 0
            say 1 1 1 2 63 0
            join 0 1 -> 2
            line 0 1 -> a = a: 2 64 0
            join 1 0 -> 4
            line 1 2 -> a = a: 2 65 0
            line 1 3 -> a = a: 3 0 2
            join 2 1 -> 4
            line 2 2 -> a = a: 2 65 0
            join 2 0 -> 7
            line 2 5 -> a = a: 2 68 0
            line 2 6 -> a = a: 3 3 5
            ofLine 2 5 6 -> 68
            ofLine 2 5 0 -> 1
            unsay 2 -> 6
            """;

    private static final String OF_LINE = """
            ## Promise 32: what 0 to 7, lines from the first to the last, PROOFS 0 to 2
            term 6 3 0 -> 6
            say 1 6 2 2 63 -1
            say 1 0 6 11 -1 63
            ofLine 1 0 0 -> 1
            ofLine 1 0 1 -> 0
            ofLine 1 0 2 -> 0
            ofLine 1 0 3 -> 2
            ofLine 1 0 4 -> 6
            ofLine 1 0 5 -> 2
            ofLine 1 0 6 -> 63
            ofLine 1 0 7 -> -1
            ofLine 1 1 2 -> 1
            ofLine 1 1 3 -> 11
            ofLine 1 1 4 -> 0
            ofLine 1 1 5 -> 6
            ofLine 1 1 6 -> -1
            ofLine 1 1 7 -> 63
            ofLine 1 0 8 -> A
            ofLine 1 0 -1 -> A
            ofLine 1 2 0 -> I
            ofLine 1 -1 0 -> I
            ofLine 0 0 0 -> I
            ofLine 3 0 0 -> I
            ofLine -1 0 0 -> I
            ofLine 1 2 8 -> I
            ofLine 3 0 -1 -> I
            """;

    private static final String HANGS_NUMBERS = """
            ## Promise 33: PROOFS 0 to 2, lines from the first to the last
            say 2 0 1 8 0 0
            hangs 2 0 -> 0
            hangs 2 1 -> I
            hangs 2 -1 -> I
            hangs 0 0 -> I
            hangs 3 0 -> I
            hangs -1 0 -> I
            hangs 2 24 -> I
            hangs 2 2147483647 -> I
            """;

    private static final String FAILS_NUMBERS = """
            ## Promise 35: PROOFS 0 to 2, lines from the first to the last
            say 2 0 1 1 0 0
            fails 2 0 -> 1
            fails 2 1 -> I
            fails 2 -1 -> I
            fails 1 0 -> I
            fails 3 0 -> I
            fails -1 0 -> I
            fails 2 24 -> I
            fails 2 -2147483648 -> I
            """;

    private static final String FAILS_FIRST = """
            ## Promise 35: from TABLE 0 on; NONE if it holds in all, and if the BOOK has no TABLES
            say 0 3 0 1 0 0             # x = o
            say 0 3 3 1 0 0
            fails 0 0 -> 0
            fails 0 1 -> -1
            tell 0 3 4
            ofBook 0 7 -> 0
            fails 0 0 -> -1
            takeBack 0 0
            tell 1 3 4
            fails 0 0 -> 0
            """;

    private static final String FAILS_HIGH = """
            ## Promise 35: TABLES of BOOK 0 alone; 403 is the highest that can be the first
            term 7 3 4 -> 6
            term 6 3 0 -> 7
            tell 0 6 3                  # p(x,y) = x
            tell 0 7 3                  # s(x) = x
            tell 0 0 1                  # o = a
            tableAt 0 0 -> 400
            tableAt 0 1 -> 403
            tableAt 0 2 -> 404
            tableAt 0 3 -> 407
            say 0 0 2 1 0 0             # o = b
            fails 0 0 -> 403
            say 0 1 0 1 0 0
            fails 0 1 -> -1
            say 0 0 2 9 0 0             # s of o is o in all: no BUILT ones
            fails 0 2 -> -1
            """;

    private static final String FAILS_BUILT = """
            ## Promise 35: BUILT ones alone, if the line USES induction, by whichever way
            say 0 0 1 9 0 0             # 0
            fails 0 0 -> 1              # o as 1, s of 1 as 0
            say 0 1 0 9 0 0
            say 0 0 0 1 0 0
            say 0 1 2 9 -1 -1           # 3
            fails 0 3 -> 3              # 2 is not BUILT
            say 0 1 2 1 -1 -1
            fails 0 4 -> 2
            say 0 1 2 3 2 3             # 5: USES by line j
            fails 0 5 -> 3
            say 1 0 0 8 0 0
            say 1 0 0 9 0 0
            say 1 2 2 1 0 0
            keep 4 1
            say 2 1 2 12 4 0            # by a lemma
            fails 2 0 -> 3
            drop 4
            fails 2 0 -> 2
            """;

    private static final String FAILS_ASSUMPTIONS = """
            ## 5. Tables: with VALUES with which each of the ASSUMPTIONS has the same value on both sides
            say 0 3 0 8 0 0             # 0: x = o
            say 0 3 1 8 0 0             # 1: x = a
            say 0 0 1 2 0 0             # 2: o = a by 0: wrong
            fails 0 2 -> 1
            say 0 0 1 3 0 1             # 3: o = a by 0 and 1: x is o and a
            ofLine 0 3 0 -> 3
            fails 0 3 -> -1
            say 0 1 0 2 1 0             # 4: a = o by 1
            fails 0 4 -> 1
            say 0 0 2 3 0 1             # 5: o = b by 0 and 1
            fails 0 5 -> 3
            say 0 3 4 8 0 0             # 6: x = y
            say 0 4 3 2 6 0
            fails 0 7 -> -1
            say 0 3 5 2 6 0             # 8: x = z by x = y
            fails 0 8 -> 0
            """;

    private static final String THEOREM = """
            ## Promise 44: what is ahead of the first wrong line holds; of new lines, without asking ahead of it
            firstWrong 0 -> -1
            say 0 0 1 1 0 0             # wrong, and holds not in all TABLES
            isSound -> true
            fails 0 0 -> 1
            unsay 0
            firstWrong 0 -> -1
            say 0 0 1 8 0 0
            isSound -> true
            say 0 1 0 2 0 0
            isSound -> true
            tell 0 1 2
            say 0 1 2 0 0 0
            isSound -> true
            takeBack 0 0
            isSound -> true
            """;
}
