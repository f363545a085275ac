/** Promises 36 to 38: keep, drop, ofLemma. */
public final class LemmasTest {
    private LemmasTest() {
    }

    public static void main(String[] args) {
        Script.run("LemmasTest", KEEP, ASSUMPTION, COPY, LEMMA_LINE, CIRCLE, CHAIN, CHAIN_BACKWARDS, INDUCTION, DROP, OF_LEMMA);
    }

    // Promise 36
    private static final String KEEP = """
            keep 0 0 -> -9              # without lines
            say 0 0 1 1 0 0
            keep 0 0 -> -9              # not RIGHT
            unsay 0
            say 0 1 1 1 0 0
            keep 0 0 -> 0
            keep 5 0 -> 0
            keep 0 0 -> 1
            keep 0 1 -> -9
            house 4 -> 2
            ofLemma 0 1 -> 1            # what cannot be kept changes nothing
            keep 6 0 -> throws.IndexOutOfBoundsException
            keep -1 0 -> throws.IndexOutOfBoundsException
            keep 0 3 -> throws.IndexOutOfBoundsException
            keep 0 -1 -> throws.IndexOutOfBoundsException
            say 1 2 2 1 0 0
            keep 0 1 -> 1
            ofLemma 0 1 -> 2
            ofLemma 5 1 -> 1
            """;

    // The last line HANGS ON none; others may.
    private static final String ASSUMPTION = """
            tell 0 1 2
            say 0 1 2 8 0 0
            keep 0 0 -> -9
            say 0 1 2 0 0 0
            keep 0 0 -> 0
            say 0 2 1 2 0 0
            keep 1 0 -> -9
            say 0 1 2 9 1 0             # without the ASSUMPTION
            keep 1 0 -> 0
            ofLemma 1 0 -> 4
            ofLemma 1 4 -> 1
            """;

    // A copy: it stays when the PROOF changes.
    private static final String COPY = """
            tell 0 1 2
            say 0 1 2 0 0 0
            say 0 2 1 2 0 0
            keep 2 0 -> 0
            unsay 0
            unsay 0
            say 0 0 0 1 0 0
            ofLemma 2 0 -> 2
            ofLemma 2 1 -> 2
            ofLemma 2 2 -> 1
            ofLemma 2 3 -> 1
            takeBack 0 0
            ofLemma 2 3 -> 0            # STANDS, if its lines are RIGHT now
            level 0
            tell 0 1 2
            ofLemma 2 3 -> 0
            house 4 -> 1
            house 5 -> 0
            new
            level 0
            tell 0 1 2
            say 0 1 2 0 0 0
            keep 0 0 -> 0
            back 0
            ofLemma 0 3 -> 0
            tell 0 2 1
            ofLemma 0 3 -> 0
            back 0
            level 0
            takeBack 0 0
            tell 0 1 2
            ofLemma 0 3 -> 0
            """;

    // RULE 12
    private static final String LEMMA_LINE = """
            tell 0 1 2
            say 0 1 2 0 0 0
            keep 3 0
            say 1 1 2 12 3 -1           # 0
            say 1 2 1 12 3 0            # 1: other sides
            say 1 1 2 12 2 0            # 2: no such lemma
            say 1 1 2 12 -1 0
            say 1 1 2 12 6 0
            say 1 1 2 12 63 0
            ofLine 1 0 0 -> 0
            ofLine 1 1 0 -> 3
            ofLine 1 2 0 -> 1
            ofLine 1 3 0 -> 1
            ofLine 1 4 0 -> 1
            ofLine 1 5 0 -> 1
            hangs 1 0 ->
            level 0
            takeBack 0 0
            ofLine 1 0 0 -> 2
            ofLine 1 1 0 -> 2
            back 0
            ofLine 1 0 0 -> 0
            keep 2 0
            ofLine 1 2 0 -> 0
            say 0 2 1 2 0 0
            keep 3 0 -> 1               # now it is b = a
            ofLine 1 0 0 -> 3
            ofLine 1 1 0 -> 0
            drop 3 -> 1
            ofLine 1 1 0 -> 1
            """;

    // -9 for a name that one of the LEMMA lines has, or a lemma that USES it.
    private static final String CIRCLE = """
            say 0 0 0 1 0 0
            keep 0 0 -> 0
            say 1 0 0 12 0 0
            keep 0 1 -> -9              # its own name
            keep 1 1 -> 0               # 1 USES 0
            say 2 0 0 12 1 0
            keep 0 2 -> -9              # 1 USES 0
            keep 1 2 -> -9
            keep 2 2 -> 0               # 2 USES 1 and 0
            unsay 2
            say 2 0 0 12 2 0
            keep 0 2 -> -9              # 2 USES 0 by 1
            keep 1 2 -> -9
            keep 2 2 -> -9
            keep 3 2 -> 0
            ofLemma 3 5 -> 3
            ofLemma 2 5 -> 2
            ofLemma 0 5 -> 0
            keep 1 0 -> 1               # now 1 USES none
            ofLemma 2 5 -> 1
            ofLemma 3 5 -> 2
            keep 0 2 -> 1               # 2 USES 1 alone: now 0 USES 2 and 1
            ofLemma 0 5 -> 2
            isSound -> true
            """;

    // What lemmas STAND by, one behind the other, in whatever order of names.
    private static final String CHAIN = """
            tell 0 1 2
            say 0 1 2 0 0 0
            keep 5 0
            say 1 1 2 12 5 0
            keep 0 1
            unsay 1
            say 1 1 2 12 0 0
            keep 4 1
            unsay 1
            say 1 1 2 12 4 0
            keep 1 1
            unsay 1
            say 1 1 2 12 1 0
            keep 3 1
            unsay 1
            say 1 1 2 12 3 0
            keep 2 1
            house 5 -> 6
            ofLemma 2 5 -> 5
            ofLemma 2 3 -> 1
            ofLemma 0 5 -> 1
            takeBack 0 0
            house 5 -> 0
            ofLemma 2 3 -> 0
            tell 0 1 2
            unsay 0
            say 0 1 2 0 1 0
            keep 5 0 -> 1
            house 5 -> 6
            drop 5 -> 5
            house 5 -> 0
            ofLemma 2 5 -> 4            # that are there
            ofLemma 0 5 -> 0
            ofLine 1 0 0 -> 2
            keep 5 0 -> 0
            house 5 -> 6
            say 0 1 2 12 2 0
            keep 5 0 -> -9
            """;

    // Each lemma but the last name USES that of the next name.
    private static final String CHAIN_BACKWARDS = """
            tell 0 1 2
            say 0 1 2 0 0 0
            keep 5 0
            say 1 1 2 12 5 0
            keep 4 1
            say 1 1 2 12 4 0
            keep 3 1
            say 1 1 2 12 3 0
            keep 2 1
            say 1 1 2 12 2 0
            keep 1 1
            say 1 1 2 12 1 0
            keep 0 1
            house 5 -> 6
            ofLemma 0 5 -> 5
            ofLemma 0 3 -> 1
            ofLemma 3 5 -> 2
            takeBack 0 0
            house 5 -> 0
            drop 5 -> 5
            ofLemma 0 5 -> 4
            isSound -> true
            """;

    // USES induction, by a lemma, whatever line of it does.
    private static final String INDUCTION = """
            say 0 0 0 8 0 0
            say 0 0 0 1 0 0
            say 0 0 0 9 1 0             # 2: an INDUCT line
            say 0 1 1 1 0 0             # 3: the last line USES it not
            ofLine 0 2 0 -> 0
            ofLine 0 3 2 -> 0
            keep 0 0 -> 0
            ofLemma 0 4 -> 1
            say 1 1 1 12 0 0
            ofLine 1 0 0 -> 0
            ofLine 1 0 2 -> 1
            keep 1 1 -> 0
            ofLemma 1 4 -> 1
            say 2 1 1 12 1 0
            say 2 1 1 2 0 0
            say 2 0 1 12 1 0            # with a FAULT
            say 2 1 1 1 0 0
            say 2 1 1 12 3 0
            ofLine 2 0 2 -> 1
            ofLine 2 1 2 -> 1
            ofLine 2 2 2 -> 1
            ofLine 2 3 2 -> 0
            ofLine 2 4 2 -> 0
            unsay 0
            unsay 0
            unsay 0
            unsay 0
            say 0 1 1 1 0 0
            keep 0 0 -> 1
            ofLemma 1 4 -> 0            # now
            ofLine 2 0 2 -> 0
            """;

    // Promise 37
    private static final String DROP = """
            drop 0 -> throws.IndexOutOfBoundsException
            drop 6 -> throws.IndexOutOfBoundsException
            drop -1 -> throws.IndexOutOfBoundsException
            say 0 0 0 1 0 0
            keep 0 0
            keep 3 0
            keep 5 0
            drop 1 -> throws.IndexOutOfBoundsException
            drop 3 -> 2
            drop 3 -> throws.IndexOutOfBoundsException
            ofLemma 3 0 -> throws.IndexOutOfBoundsException
            ofLemma 5 0 -> 1
            drop 0 -> 1
            drop 5 -> 0
            house 4 -> 0
            keep 3 0 -> 0
            """;

    // Promise 38
    private static final String OF_LEMMA = """
            tell 0 1 2
            say 0 1 2 0 0 0
            say 0 2 1 2 0 0
            say 0 2 2 3 1 0
            keep 4 0
            ofLemma 4 0 -> 3
            ofLemma 4 1 -> 2
            ofLemma 4 2 -> 2
            ofLemma 4 3 -> 1
            ofLemma 4 4 -> 0
            ofLemma 4 5 -> 0
            unsay 0
            keep 4 0 -> 1
            ofLemma 4 0 -> 2
            ofLemma 4 1 -> 2
            ofLemma 4 2 -> 1
            ofLemma 4 6 -> throws.IllegalArgumentException
            ofLemma 4 -1 -> throws.IllegalArgumentException
            ofLemma 3 6 -> throws.IndexOutOfBoundsException
            ofLemma 6 0 -> throws.IndexOutOfBoundsException
            ofLemma -1 0 -> throws.IndexOutOfBoundsException
            ofLemma 64 0 -> throws.IndexOutOfBoundsException
            """;
}
