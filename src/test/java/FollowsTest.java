/** Promises 14 to 21: like, classOf, round, path, why, without, clashWhy, common. */
public final class FollowsTest {
    private FollowsTest() {
    }

    public static void main(String[] args) {
        Script.run("FollowsTest", ROUNDS, PARTS_OF_P, NOT_BARE, PATH, PATH_BY_ROUND, WHY, WITHOUT, CLASH_WHY,
                COMMON, WRONG);
    }

    // Promises 14 to 16
    private static final String ROUNDS = """
            like 0 0 0 -> true
            round 0 0 0 -> 0
            like 0 0 1 -> false
            round 0 0 1 -> -1
            term 6 1 0 -> 6             # s(a)
            term 6 2 0 -> 7             # s(b)
            term 6 6 0 -> 8             # s(s(a))
            term 6 7 0 -> 9             # s(s(b))
            tell 0 1 2
            like 0 1 2 -> true
            like 0 2 1 -> true
            round 0 1 2 -> 0
            like 0 6 7 -> true
            round 0 6 7 -> 1
            round 0 7 6 -> 1
            round 0 8 9 -> 2
            like 0 6 8 -> false
            round 0 6 8 -> -1
            round 0 8 8 -> 0
            classOf 0 2 -> 1
            classOf 0 1 -> 1
            classOf 0 7 -> 6
            classOf 0 9 -> 8
            classOf 0 0 -> 0
            classOf 1 2 -> 2
            like 1 1 2 -> false
            tell 0 7 0                  # s(b) = o
            round 0 6 0 -> 1
            classOf 0 7 -> 0
            classOf 0 6 -> 0
            like 0 8 9 -> true
            takeBack 0 0
            like 0 6 7 -> false
            like 0 7 0 -> true
            classOf 0 7 -> 0
            new
            term 6 0 0 -> 6             # s(o)
            term 6 6 0 -> 7
            term 6 7 0 -> 8
            term 6 8 0 -> 9
            tell 0 7 0                  # s(s(o)) = o
            round 0 8 6 -> 1            # s(s(s(o))), s(o)
            round 0 9 7 -> 2
            round 0 9 0 -> 2            # by s(s(o))
            tell 0 8 0                  # and s(s(s(o))) = o
            round 0 6 0 -> 1
            ofBook 0 6 -> 3
            """;

    // Promises 14 and 16: left with left, right with right.
    private static final String PARTS_OF_P = """
            term 7 0 1 -> 6             # p(o,a)
            term 7 1 0 -> 7             # p(a,o)
            term 7 0 2 -> 8             # p(o,b)
            term 7 2 0 -> 9             # p(b,o)
            term 6 0 0 -> 10
            term 7 10 1 -> 11           # p(s(o),a)
            term 7 1 2 -> 12            # p(a,b)
            tell 0 1 2
            like 0 6 8 -> true
            round 0 6 8 -> 1
            like 0 7 9 -> true
            like 0 6 7 -> false
            like 0 8 9 -> false
            like 0 10 6 -> false
            like 0 11 6 -> false
            like 0 12 6 -> false
            tell 0 10 0
            like 0 11 6 -> true
            round 0 11 8 -> 1
            tell 0 0 1
            like 0 12 11 -> true
            ofBook 0 6 -> 2
            """;

    // BARE EQUATIONS alone.
    private static final String NOT_BARE = """
            term 6 3 0 -> 6             # s(x)
            term 6 1 0 -> 7             # s(a)
            term 6 2 0 -> 8             # s(b)
            tell 0 6 3
            tell 0 3 1
            tell 0 2 6
            like 0 7 1 -> false
            like 0 1 2 -> false
            like 0 7 8 -> false
            like 0 3 3 -> throws.IllegalArgumentException
            law 0 1 1
            term 7 1 2 -> 9
            term 7 2 1 -> 10
            like 0 9 10 -> false        # LAWS do not matter
            """;

    // Promise 17
    private static final String PATH = """
            path 0 1 1 -> 1
            path 0 1 2 -> -
            term 6 0 0 -> 6             # s(o)
            tell 0 0 2
            tell 0 6 2
            tell 0 0 1
            tell 0 1 6
            path 0 0 6 -> 0 1 6         # not 0 2 6
            path 0 6 0 -> 6 1 0
            path 0 1 2 -> 1 0 2
            path 0 0 1 -> 0 1
            takeBack 0 3
            path 0 0 6 -> 0 2 6
            path 0 1 6 -> 1 0 2 6
            tell 0 6 0
            path 0 1 6 -> 1 0 6         # shorter
            path 0 2 6 -> 2 6
            path 1 0 6 -> -
            path 1 6 6 -> 6
            """;

    // Promise 17: parts that are LIKE in the round ahead, and EQUATIONS.
    private static final String PATH_BY_ROUND = """
            term 6 1 0 -> 6             # s(a)
            term 6 2 0 -> 7             # s(b)
            term 6 6 0 -> 8
            term 6 7 0 -> 9
            tell 0 1 2
            path 0 6 7 -> 6 7
            path 0 8 9 -> 8 9
            tell 0 7 0                  # s(b) = o
            path 0 6 0 -> 6 7 0
            path 0 0 6 -> 0 7 6
            tell 0 8 0                  # s(s(a)) = o: now s(s(a)), s(s(b)) of round 2, s(s(a)), s(b) of round 0
            round 0 8 7 -> 0
            path 0 8 7 -> 8 0 7
            round 0 8 9 -> 2
            path 0 8 9 -> 8 9
            round 0 6 8 -> 1
            path 0 6 8 -> 6 7 0 8
            tell 0 9 0
            round 0 8 9 -> 0
            path 0 8 9 -> 8 0 9         # in the round 0 by EQUATIONS alone
            path 0 9 6 -> 9 0 7 6
            """;

    // Promise 18
    private static final String WHY = """
            term 6 1 0 -> 6             # s(a)
            term 6 2 0 -> 7             # s(b)
            tell 0 1 2                  # 0
            why 0 1 2 -> 0
            why 0 6 7 -> 0
            why 0 0 1 -> -
            why 0 6 6 ->
            why 1 6 7 -> -
            tell 0 2 1                  # 1, the same once more: the greater number is left out
            why 0 1 2 -> 0
            tell 0 6 0                  # 2
            tell 0 0 7                  # 3
            why 0 6 7 -> 0
            why 0 6 0 -> 2
            why 0 7 0 -> 0 2            # 3 is left out first
            why 0 0 7 -> 0 2
            takeBack 0 0
            why 0 6 7 -> 1
            takeBack 0 1
            why 0 6 7 -> 2 3
            why 0 1 2 -> -
            tell 0 3 3
            tell 0 6 7                  # 5
            why 0 6 7 -> 2 3
            """;

    // Promise 19
    private static final String WITHOUT = """
            term 6 1 0 -> 6
            term 6 2 0 -> 7
            tell 0 1 2                  # 0
            tell 0 6 7                  # 1
            tell 0 3 0                  # 2
            without 0 0 6 7 -> true
            without 0 1 6 7 -> true
            without 0 2 6 7 -> true
            without 0 0 1 2 -> false
            without 0 1 1 2 -> true
            takeBack 0 1
            without 0 0 6 7 -> false
            without 0 1 6 7 -> true     # GONE already
            without 0 0 6 6 -> true
            without 0 0 0 6 -> false
            like 0 6 7 -> true          # nothing is GONE by that
            without 0 3 0 0 -> throws.IndexOutOfBoundsException
            without 0 -1 0 0 -> throws.IndexOutOfBoundsException
            without 1 0 0 0 -> throws.IndexOutOfBoundsException
            without 2 0 0 0 -> throws.IndexOutOfBoundsException
            without 0 0 8 3 -> throws.IndexOutOfBoundsException
            without 0 0 0 8 -> throws.IndexOutOfBoundsException
            without 0 3 3 3 -> throws.IndexOutOfBoundsException
            without 0 0 3 0 -> throws.IllegalArgumentException
            without 0 0 0 3 -> throws.IllegalArgumentException
            """;

    // Promise 20
    private static final String CLASH_WHY = """
            clashWhy 0 -> -
            tell 0 0 1
            tell 0 1 2
            clashWhy 0 -> -
            unlike 0 1 2
            unlike 0 0 1
            clashWhy 0 -> 1
            clashWhy 1 -> -
            takeBack 0 1
            clashWhy 0 -> 0             # now the other pair
            takeBack 0 0
            clashWhy 0 -> -
            unlike 0 2 2
            clashWhy 0 ->
            clashWhy 2 -> throws.IndexOutOfBoundsException
            clashWhy -1 -> throws.IndexOutOfBoundsException
            """;

    // Promise 21
    private static final String COMMON = """
            common -> 3
            tell 0 0 1
            common -> 3                 # in the one BOOK alone
            tell 1 1 0
            common -> 2
            tell 0 1 2
            common -> 2
            tell 1 2 1
            common -> 1
            takeBack 1 0
            common -> 2
            term 6 1 0 -> 6
            term 6 2 0 -> 7
            common -> 3                 # o; a, b; s(a), s(b)
            term 6 3 0 -> 8
            common -> 3
            new
            tell 0 0 1
            tell 1 1 2
            common -> 3
            """;

    // Wrong numbers, promises 14 to 18.
    private static final String WRONG = """
            like 2 0 0 -> throws.IndexOutOfBoundsException
            like -1 3 0 -> throws.IndexOutOfBoundsException
            like 0 6 3 -> throws.IndexOutOfBoundsException
            like 0 0 -1 -> throws.IndexOutOfBoundsException
            like 0 3 0 -> throws.IllegalArgumentException
            like 0 0 5 -> throws.IllegalArgumentException
            classOf 2 0 -> throws.IndexOutOfBoundsException
            classOf 0 6 -> throws.IndexOutOfBoundsException
            classOf 0 -1 -> throws.IndexOutOfBoundsException
            classOf 0 3 -> throws.IllegalArgumentException
            classOf 2 3 -> throws.IndexOutOfBoundsException
            round 2 0 0 -> throws.IndexOutOfBoundsException
            round 0 6 3 -> throws.IndexOutOfBoundsException
            round 0 3 6 -> throws.IndexOutOfBoundsException
            round 0 3 0 -> throws.IllegalArgumentException
            round 0 0 4 -> throws.IllegalArgumentException
            path 2 0 0 -> throws.IndexOutOfBoundsException
            path 0 6 3 -> throws.IndexOutOfBoundsException
            path 0 3 0 -> throws.IllegalArgumentException
            path 0 0 4 -> throws.IllegalArgumentException
            why 2 0 0 -> throws.IndexOutOfBoundsException
            why 0 6 3 -> throws.IndexOutOfBoundsException
            why 0 3 0 -> throws.IllegalArgumentException
            why 0 0 4 -> throws.IllegalArgumentException
            """;
}
