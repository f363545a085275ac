/** The boundary cases of promises 36 to 38 and of "4. Proofs" as to lemmas, a script each. */
public final class LemmaEdgesTest {
    private LemmaEdgesTest() {
    }

    public static void main(String[] args) {
        Script.run("LemmaEdgesTest", KEEP_NAMES, KEEP_ORDER, KEEP_NOT_ACCEPTED, KEEP_ASSUMPTION, KEEP_REFUSED_STAYS,
                KEEP_LINES, KEEP_OWN_NAME, KEEP_USED, KEEP_USED_FAR, KEEP_USED_NOW, COPY, SIDES, STANDS,
                STANDS_BY_ANOTHER, STANDS_ALL_LINES, DROP_NAMES, DROP_LEFT, OF_LEMMA_NAMES, OF_LEMMA_WHAT,
                OF_LEMMA_ONE_LINE, OF_LEMMA_USES, OF_LEMMA_INDUCTION, HOUSE_LEMMAS, NOT_A_NAME);
    }

    private static final String KEEP_NAMES = """
            ## Promise 36: names 0 to 5, PROOFS 0 to 2
            say 2 0 0 1 0 0
            keep 0 2 -> 0
            keep 5 2 -> 0
            keep 6 2 -> I
            keep -1 2 -> I
            keep 0 3 -> I
            keep 0 -1 -> I
            keep 2147483647 2 -> I
            keep 0 -2147483648 -> I
            house 4 -> 2
            keep 5 2 -> 1
            """;

    private static final String KEEP_ORDER = """
            ## Promise 36: exceptions ahead of -9
            keep 0 0 -> -9
            keep 6 0 -> I
            keep -1 0 -> I
            keep 0 3 -> I
            keep 6 3 -> I
            house 4 -> 0
            """;

    private static final String KEEP_NOT_ACCEPTED = """
            ## Promise 36: -9 without lines, or with a line that is not RIGHT, the first or the last
            keep 1 0 -> -9
            say 0 0 1 1 0 0
            keep 1 0 -> -9
            say 0 0 0 1 0 0
            keep 1 0 -> -9
            say 1 0 0 1 0 0
            say 1 0 1 1 0 0
            keep 1 1 -> -9
            unsay 1
            keep 1 1 -> 0
            """;

    private static final String KEEP_ASSUMPTION = """
            ## Promise 36: -9 if the last line HANGS ON some ASSUMPTION; others may
            say 0 0 1 8 0 0
            keep 0 0 -> -9
            say 0 1 0 2 0 0
            keep 0 0 -> -9
            say 0 1 1 3 1 0
            keep 0 0 -> -9
            say 0 1 1 1 0 0
            keep 0 0 -> 0
            ofLemma 0 0 -> 4
            unsay 0
            keep 0 0 -> -9
            ofLemma 0 0 -> 4
            """;

    private static final String KEEP_REFUSED_STAYS = """
            ## Promise 36: what cannot be kept leaves the lemma of this name as it was
            say 0 0 0 1 0 0
            keep 3 0 -> 0
            say 1 1 2 8 0 0
            keep 3 1 -> -9
            keep 3 2 -> -9
            ofLemma 3 1 -> 0
            ofLemma 3 3 -> 1
            say 2 0 0 12 3 0
            say 2 1 1 1 0 0
            keep 3 2 -> -9
            ofLemma 3 0 -> 1
            ofLemma 3 5 -> 0
            house 4 -> 1
            """;

    private static final String KEEP_LINES = """
            ## Promise 36: a PROOF of one line, a PROOF of 24 lines
            times 24 say 0 1 1 1 0 0 -> 23
            keep 0 0 -> 0
            ofLemma 0 0 -> 24
            times 23 unsay 0 -> 1
            keep 1 0 -> 0
            ofLemma 1 0 -> 1
            keep 0 0 -> 1
            ofLemma 0 0 -> 1
            times 24 say 1 2 2 1 0 0 -> 23
            keep 5 1 -> 0
            ofLemma 5 0 -> 24
            ofLemma 5 1 -> 2
            ofLemma 1 1 -> 1
            """;

    private static final String KEEP_OWN_NAME = """
            ## Promise 36: -9 if a LEMMA line has this name, the first line or the last; not if another line has i so
            say 0 0 0 1 0 0
            keep 0 0 -> 0
            keep 5 0 -> 0
            say 1 0 0 12 0 0
            say 1 1 1 1 5 5             # SAME, not LEMMA
            keep 0 1 -> -9
            keep 5 1 -> 1
            say 2 1 1 1 0 0
            say 2 0 0 12 0 0
            keep 0 2 -> -9
            keep 1 2 -> 0
            ofLemma 1 5 -> 1
            """;

    private static final String KEEP_USED = """
            ## Promise 36: -9 if a LEMMA line has the name of a lemma that USES this one
            say 0 0 0 1 0 0
            keep 2 0
            say 1 0 0 12 2 0
            keep 3 1                    # 3 USES 2
            say 2 0 0 12 3 0
            keep 2 2 -> -9
            keep 3 2 -> -9
            keep 4 2 -> 0               # 4 USES 3 and 2
            unsay 2
            say 2 0 0 12 4 0
            keep 2 2 -> -9
            keep 3 2 -> -9
            keep 4 2 -> -9
            keep 5 2 -> 0
            ofLemma 5 5 -> 3
            isSound -> true
            """;

    private static final String KEEP_USED_FAR = """
            ## Promise 36: all six one behind the other: the last one may not come into any of the others
            say 0 0 0 1 0 0
            keep 0 0
            say 1 0 0 12 0 0
            keep 1 1
            say 1 0 0 12 1 0
            keep 2 1
            say 1 0 0 12 2 0
            keep 3 1
            say 1 0 0 12 3 0
            keep 4 1
            say 1 0 0 12 4 0
            keep 5 1 -> 0
            ofLemma 5 5 -> 5
            say 2 0 0 12 5 0
            keep 0 2 -> -9
            keep 1 2 -> -9
            keep 2 2 -> -9
            keep 3 2 -> -9
            keep 4 2 -> -9
            keep 5 2 -> -9
            house 5 -> 6
            keep 5 0 -> 1               # 5 USES none now
            keep 0 2 -> 1               # so 0 may USE it
            ofLemma 4 5 -> 5
            ofLemma 5 5 -> 0
            isSound -> true
            """;

    private static final String KEEP_USED_NOW = """
            ## 4. Proofs: what lemmas USE now: not what they USED when they were kept
            say 0 0 0 1 0 0
            keep 0 0
            say 1 0 0 12 0 0
            keep 1 1                    # 1 USES 0
            say 2 0 0 12 1 0
            keep 2 2                    # 2 USES 1 and 0
            keep 1 0 -> 1               # 1 USES none
            ofLemma 2 5 -> 1
            keep 0 2 -> 1               # 0 USES 1
            ofLemma 0 5 -> 1
            unsay 1
            say 1 0 0 12 0 0
            keep 1 1 -> -9
            keep 2 1 -> 1               # 2 USES 0 and 1
            ofLemma 2 5 -> 2
            """;

    private static final String COPY = """
            ## 4. Proofs: a copy of the lines: what becomes of the PROOF changes nothing
            tell 0 1 2
            say 0 1 2 0 0 0
            say 0 2 1 2 0 0
            keep 0 0
            unsay 0
            unsay 0
            say 0 0 1 1 0 0
            ofLemma 0 0 -> 2
            ofLemma 0 1 -> 2
            ofLemma 0 3 -> 1
            say 1 2 2 1 0 0
            say 1 2 2 1 0 0
            keep 1 1
            shorten 1 -> 1
            ofLemma 1 0 -> 2
            join 1 0 -> 2
            ofLemma 1 0 -> 2
            keep 1 2 -> -9
            ofLemma 1 0 -> 2
            """;

    private static final String SIDES = """
            ## 4. Proofs: its sides are those of the last line, not of the first
            say 0 1 1 1 0 0
            say 0 2 2 1 0 0
            keep 0 0
            ofLemma 0 1 -> 2
            ofLemma 0 2 -> 2
            say 1 2 2 12 0 0
            say 1 1 1 12 0 0
            ofLine 1 0 0 -> 0
            ofLine 1 1 0 -> 3
            """;

    private static final String STANDS = """
            ## 4. Proofs: it STANDS, if all its lines are RIGHT now: not while an EQUATION is GONE
            level 0
            tell 0 1 2
            say 0 1 2 0 0 0
            keep 0 0
            ofLemma 0 3 -> 1
            house 5 -> 1
            takeBack 0 0
            ofLemma 0 3 -> 0
            house 5 -> 0
            house 4 -> 1
            back 0
            ofLemma 0 3 -> 0
            tell 0 2 1
            ofLemma 0 3 -> 0
            tell 0 1 2
            ofLemma 0 3 -> 0            # EQUATION 1, not 0
            ofLemma 0 0 -> 1
            ofLemma 0 1 -> 1
            """;

    private static final String STANDS_BY_ANOTHER = """
            ## 4. Proofs: a lemma does not STAND, if one does not that it USES
            tell 0 1 2
            say 0 1 2 0 0 0
            keep 5 0
            say 1 1 2 12 5 0
            keep 0 1
            say 2 1 2 12 0 0
            keep 3 2
            house 5 -> 3
            takeBack 0 0
            house 5 -> 0
            ofLine 2 0 0 -> 2
            ofLine 1 0 0 -> 2
            tell 0 1 2
            unsay 0
            say 0 1 2 0 1 0
            keep 5 0 -> 1               # by EQUATION 1
            house 5 -> 3
            drop 5
            house 5 -> 0
            ofLine 1 0 0 -> 1
            ofLine 2 0 0 -> 2
            ofLemma 0 3 -> 0
            ofLemma 3 3 -> 0
            say 0 0 0 1 0 0
            keep 5 0 -> 0               # of other sides
            house 5 -> 1
            ofLine 1 0 0 -> 3
            ofLine 2 0 0 -> 2
            """;

    private static final String STANDS_ALL_LINES = """
            ## 4. Proofs: all its lines, also those that the last one does not name
            tell 0 1 2
            say 0 1 2 0 0 0
            say 0 0 0 1 0 0
            keep 0 0
            say 1 0 0 12 0 0
            ofLine 1 0 0 -> 0
            takeBack 0 0
            ofLemma 0 3 -> 0
            ofLine 1 0 0 -> 2
            law 0 1 0
            term 7 0 1 -> 6
            term 7 1 0 -> 7
            say 2 6 7 13 0 0
            keep 1 2 -> 0
            ofLemma 1 3 -> 1
            law 0 0 1
            ofLemma 1 3 -> 0
            law 0 1 1
            ofLemma 1 3 -> 1
            """;

    private static final String DROP_NAMES = """
            ## Promise 37: no lemma of this name: none yet, dropped, or no name at all
            drop 0 -> I
            drop 5 -> I
            drop 6 -> I
            drop -1 -> I
            say 0 0 0 1 0 0
            keep 0 0
            drop 0 -> 0
            drop 0 -> I
            keep 5 0
            drop 0 -> I
            drop 4 -> I
            drop 5 -> 0
            drop 2147483647 -> I
            drop -2147483648 -> I
            """;

    private static final String DROP_LEFT = """
            ## Promise 37: how many are left, from six to none; PROOFS stay
            say 0 0 0 1 0 0
            keep 0 0
            keep 1 0
            keep 2 0
            keep 3 0
            keep 4 0
            keep 5 0
            house 4 -> 6
            drop 5 -> 5
            drop 0 -> 4
            drop 2 -> 3
            keep 2 0 -> 0
            drop 2 -> 3
            drop 4 -> 2
            drop 3 -> 1
            drop 1 -> 0
            house 4 -> 0
            house 2 -> 1
            """;

    private static final String OF_LEMMA_NAMES = """
            ## Promise 38: names of lemmas that are there; ahead of what
            say 0 0 0 1 0 0
            ofLemma 0 0 -> I
            keep 0 0
            keep 5 0
            ofLemma 0 0 -> 1
            ofLemma 5 0 -> 1
            ofLemma 1 0 -> I
            ofLemma 4 0 -> I
            ofLemma 6 0 -> I
            ofLemma -1 0 -> I
            ofLemma 6 6 -> I
            ofLemma -1 -1 -> I
            ofLemma 1 6 -> I
            drop 0
            ofLemma 0 6 -> I
            """;

    private static final String OF_LEMMA_WHAT = """
            ## Promise 38: what 0 to 5
            say 0 2 2 1 0 0
            keep 0 0
            ofLemma 0 0 -> 1
            ofLemma 0 1 -> 2
            ofLemma 0 2 -> 2
            ofLemma 0 3 -> 1
            ofLemma 0 4 -> 0
            ofLemma 0 5 -> 0
            ofLemma 0 6 -> A
            ofLemma 0 -1 -> A
            ofLemma 0 2147483647 -> A
            """;

    private static final String OF_LEMMA_ONE_LINE = """
            ## Promise 38: both sides of the last line, of one line and of more
            tell 0 1 2
            say 0 1 2 0 0 0
            keep 0 0
            ofLemma 0 1 -> 1
            ofLemma 0 2 -> 2
            say 0 2 1 2 0 0
            keep 5 0
            ofLemma 5 1 -> 2
            ofLemma 5 2 -> 1
            """;

    private static final String OF_LEMMA_USES = """
            ## Promise 38: how many it USES that are there, each once; what those USE now, too
            say 0 0 0 1 0 0
            keep 0 0
            keep 1 0
            say 1 0 0 12 0 0
            say 1 0 0 12 0 0
            keep 2 1                    # 0, twice
            ofLemma 2 5 -> 1
            say 1 0 0 12 1 0
            keep 3 1                    # 0 and 1
            ofLemma 3 5 -> 2
            say 2 0 0 12 2 0
            say 2 0 0 12 3 0
            keep 4 2                    # 2, 3, 0, 1
            ofLemma 4 5 -> 4
            drop 3
            ofLemma 4 5 -> 2            # 2 and 0
            drop 2
            ofLemma 4 5 -> 0            # by none that is there
            ofLemma 4 0 -> 2
            keep 3 0
            ofLemma 4 5 -> 1
            keep 2 0
            ofLemma 4 5 -> 2
            """;

    private static final String OF_LEMMA_INDUCTION = """
            ## Promise 38: whether some line of it USES induction now, the first or the last
            say 0 0 0 8 0 0
            say 0 0 0 9 0 0
            say 0 1 1 1 0 0
            keep 0 0 -> 0
            ofLemma 0 4 -> 1
            say 1 1 1 12 0 0
            say 1 2 2 1 0 0
            keep 1 1 -> 0
            ofLemma 1 4 -> 1
            say 2 1 1 1 0 0
            keep 2 2 -> 0
            ofLemma 2 4 -> 0
            keep 0 2 -> 1
            ofLemma 0 4 -> 0
            ofLemma 1 4 -> 0
            drop 0
            ofLemma 1 4 -> 0
            """;

    private static final String HOUSE_LEMMAS = """
            ## Promise 42: how many lemmas there are, and how many STAND, up to six
            tell 0 1 2
            say 0 1 2 0 0 0
            say 1 0 0 1 0 0
            keep 0 0
            keep 1 0
            keep 2 0
            keep 3 1
            keep 4 1
            keep 5 1
            house 4 -> 6
            house 5 -> 6
            takeBack 0 0
            house 4 -> 6
            house 5 -> 3
            """;

    private static final String NOT_A_NAME = """
            ## Promises 36 to 38, and LEMMA: -1 and 6 are no names, though all PROOFS and lemmas have lines
            times 24 say 0 0 0 1 0 0
            times 24 say 1 0 0 1 0 0
            times 24 say 2 0 0 1 0 0
            keep 0 0
            keep 5 0
            ofLemma -1 0 -> I
            ofLemma 6 0 -> I
            drop -1 -> I
            drop 6 -> I
            keep -1 0 -> I
            keep 6 0 -> I
            house 2 -> 72
            house 4 -> 2
            unsay 1
            say 1 0 0 12 -1 0
            ofLine 1 23 0 -> 1
            unsay 1
            say 1 0 0 12 6 0
            ofLine 1 23 0 -> 1
            ofLine 1 23 2 -> 0
            keep 1 1 -> -9
            unsay 1
            say 1 0 0 12 5 0
            ofLine 1 23 0 -> 0
            line 3 0 -> I
            unsay 3 -> I
            firstWrong 3 -> I
            hangs 3 0 -> I
            fails 3 0 -> I
            shorten 3 -> I
            join 3 0 -> I
            """;
}
