import java.math.BigInteger;

/** The boundary cases of promises 42 to 45, and of the rule that what is refused changes nothing. */
public final class HouseEdgesTest {
    private HouseEdgesTest() {
    }

    public static void main(String[] args) {
        checkWrapAround();
        checkDigestBehindEach("an object of its own", CHANGES);
        checkDigestBehindEach("a full object", full());
        Due.end("HouseEdgesTest, digest");
        Script.run("HouseEdgesTest", HOUSE_WHAT, HOUSE_NEW, houseFull(), HOUSE_BARE, HOUSE_REFUSED_TERMS,
                HOUSE_PROOFS, KNOCK_EACH, KNOCK_MOST, SOUND_NEW, SOUND_FIRST_WRONG, SOUND_ASSUMED, SOUND_NO_TABLES,
                SOUND_LAST_BARE, SOUND_WHY, SOUND_LEMMAS, refusedOfFull(), CHANGES);
    }

    private static final String HOUSE_WHAT = """
            ## Promise 42: what 0 to 6
            house -1 -> A
            house 0 -> 6
            house 6 -> 0
            house 7 -> A
            house 2147483647 -> A
            house -2147483648 -> A
            """;

    private static final String HOUSE_NEW = """
            ## Promise 42: of a new object
            house 0 -> 6
            house 1 -> 3
            house 2 -> 0
            house 3 -> 0
            house 4 -> 0
            house 5 -> 0
            house 6 -> 0
            """;

    private static String houseFull() {
        return "## Promise 42: of a full object: 64 TERMS, 72 lines, 3 PROOFS, 6 lemmas\n" + fullTerms() + """
                house 0 -> 64
                house 1 -> 54
                term 7 19 0 -> -9
                house 0 -> 64
                times 24 say 0 0 0 1 0 0 -> 23
                times 24 say 1 0 0 1 0 0 -> 23
                times 24 say 2 0 0 1 0 0 -> 23
                house 2 -> 72
                house 3 -> 3
                keep 0 0
                keep 1 0
                keep 2 1
                keep 3 1
                keep 4 2
                keep 5 2
                house 4 -> 6
                house 5 -> 6
                keep 5 0 -> 1
                house 4 -> 6
                say 0 0 0 1 0 0 -> S
                house 2 -> 72
                isSound -> true
                """;
    }

    /** 58 TERMS more: 14 s on o, a and b each; 16 p of two signs, of which 9 are BARE. */
    private static String fullTerms() {
        StringBuilder text = new StringBuilder();
        text.append(TermEdgesTest.row(0, 6, 14)).append(TermEdgesTest.row(1, 20, 14));
        text.append(TermEdgesTest.row(2, 34, 14));
        for (int k = 48; k < 64; k++) {
            text.append("term 7 ").append((k - 48) / 3).append(' ').append((k - 48) % 3).append('\n');
        }
        return text.toString();
    }

    private static final String HOUSE_BARE = """
            ## Promise 42: BARE ones: not those with a variable, be it on the left or on the right
            term 6 3 0 -> 6
            house 1 -> 3
            term 7 3 0 -> 7
            term 7 0 5 -> 8
            house 1 -> 3
            term 7 0 0 -> 9
            house 1 -> 4
            house 0 -> 10
            """;

    private static final String HOUSE_REFUSED_TERMS = """
            ## Promise 42: what cannot be made does not count, nor what is there already
            term 0 0 0 -> 0
            term 6 0 0 -> 6
            term 6 0 0 -> 6
            house 0 -> 7
            term 6 7 0 -> I
            term 8 0 0 -> A
            house 0 -> 7
            house 1 -> 4
            """;

    private static final String HOUSE_PROOFS = """
            ## Promise 42: a PROOF without lines is not ACCEPTED, nor one with a wrong line
            house 3 -> 0
            say 0 0 0 1 0 0
            house 3 -> 1
            say 1 0 0 1 0 0
            say 2 0 1 8 0 0
            house 3 -> 3
            say 0 0 1 1 0 0
            house 3 -> 2
            house 2 -> 4
            unsay 0
            house 3 -> 3
            unsay 0
            house 3 -> 2
            house 2 -> 2
            """;

    private static final String KNOCK_EACH = """
            ## Promise 43: 1 for the first, one more for each; what is asked or refused does not count
            house 6 -> 0
            knock -> 1
            house 6 -> 1
            house 7 -> A
            digest
            back 0 -> S
            house 6 -> 1
            level 0
            knock -> 2
            back 0 -> 0
            house 6 -> 2
            """;

    private static final String KNOCK_MOST = """
            ## Promise 43: with all 512 calls
            times 511 knock -> 511
            house 6 -> 511
            """;

    private static final String SOUND_NEW = """
            ## Promise 44: of a new object
            isSound -> true
            """;

    private static final String SOUND_FIRST_WRONG = """
            ## Promise 44: only what is ahead of the first line that is not RIGHT: none, if that is the first
            say 0 0 1 1 0 0
            fails 0 0 -> 1
            isSound -> true
            say 1 0 0 1 0 0
            say 1 0 1 1 0 0
            say 1 0 1 8 0 0
            say 1 1 0 2 1 0
            fails 1 0 -> -1
            fails 1 3 -> 1
            ofLine 1 3 0 -> 0
            firstWrong 1 -> 1
            isSound -> true
            """;

    private static final String SOUND_ASSUMED = """
            ## Promise 44: a line that is RIGHT holds with its ASSUMPTIONS, be these never so
            term 6 0 0 -> 6
            say 0 0 6 8 0 0
            say 0 6 0 2 0 0
            say 0 0 0 3 0 1
            fails 0 0 -> -1
            fails 0 1 -> -1
            fails 0 2 -> -1
            isSound -> true
            """;

    private static final String SOUND_NO_TABLES = """
            ## Promise 44: in a BOOK without TABLES all holds, also what is wrong
            tell 0 3 4
            tell 1 0 3
            ofBook 0 7 -> 0
            ofBook 1 7 -> 0
            say 0 3 4 0 0 0
            say 0 0 1 1 0 0
            fails 0 1 -> -1
            isSound -> true
            """;

    private static final String SOUND_LAST_BARE = """
            ## Promise 44: the last BARE TERM need not be the last one; it may be b
            tell 0 2 1
            tell 0 1 0
            term 6 3 0 -> 6
            term 7 6 4 -> 7
            isSound -> true
            why 0 2 0 -> 0 1
            term 6 2 0 -> 8
            term 6 0 0 -> 9
            term 6 5 0 -> 10
            classOf 0 9 -> 8
            why 0 9 8 -> 0 1
            isSound -> true
            """;

    private static final String SOUND_WHY = """
            ## Promise 44: of 14 EQUATIONS, of which WHY has one
            term 6 0 0 -> 6
            times 14 tell 0 6 0 -> 13
            times 14 tell 1 0 6 -> 13
            classOf 0 6 -> 0
            why 0 6 0 -> 0
            isSound -> true
            takeBack 0 0
            why 0 6 0 -> 1
            isSound -> true
            """;

    private static final String SOUND_LEMMAS = """
            ## Promise 44: six lemmas one behind the other, none of which USES itself
            say 0 0 0 1 0 0
            keep 5 0
            say 1 0 0 12 5 0
            keep 4 1
            say 1 0 0 12 4 0
            keep 3 1
            say 1 0 0 12 3 0
            keep 2 1
            say 1 0 0 12 2 0
            keep 1 1
            say 1 0 0 12 1 0
            keep 0 1
            ofLemma 0 5 -> 5
            isSound -> true
            say 2 0 0 12 0 0
            keep 5 2 -> -9
            drop 5
            house 5 -> 0
            ofLemma 0 5 -> 4
            isSound -> true
            """;

    /** Promise 45: what digest() wraps around, here with as many digits as it takes. */
    private static void checkWrapAround() {
        int below = 0;
        int above = 0;
        for (int knocks = 0; knocks <= 64; knocks++) {
            Equalbook x = new Equalbook();
            for (int n = 0; n < knocks; n++) {
                x.knock();
            }
            BigInteger whole = wholeDigest(knocks);
            Due.is("the checksum of " + knocks + " knocks has more than 64 bits", true, () -> whole.bitLength() > 64);
            Due.is("digest() behind " + knocks + " knocks", whole.longValue(), x::digest);
            below += whole.longValue() < 0 ? 1 : 0;
            above += whole.longValue() > 0 ? 1 : 0;
        }
        int negative = below;
        int positive = above;
        Due.is("some checksums wrap around to numbers below 0, some do not", true, () -> negative > 0 && positive > 0);
    }

    private static BigInteger wholeDigest(int knocks) {
        int[] values = {
            6, 3, 0, 0, 0, 0, knocks,
            0, 0, 0, 0, 0, 0, 3, 512, -1, 0, 1, 2,
            0, 0, 0, 0, 0, 0, 3, 512, -1, 0, 1, 2,
            3, -1, -1, -1, 1};
        BigInteger d = BigInteger.valueOf(6111);
        for (int v : values) {
            d = d.multiply(BigInteger.valueOf(31)).add(BigInteger.valueOf(v));
        }
        return d;
    }

    /** Promise 45: digest() and what the other calls answer, behind each call of a script. */
    private static void checkDigestBehindEach(String of, String script) {
        StringBuilder text = new StringBuilder();
        for (String line : script.split("\n")) {
            text.append(line).append('\n');
            Equalbook x = Script.made(text.toString());
            long want = HouseTest.digestOf(x);
            Due.is("digest() of " + of + " behind " + line, want, x::digest);
            Equalbook y = Script.made(text.toString());
            Due.is("digest() of " + of + ", asked first, behind " + line, want, y::digest);
        }
    }

    private static final String CHANGES = """
            ## Promise 45: each thing that digest() has, changed once more
            term 6 1 0
            term 6 2 0
            term 6 3 0
            put 8 3 6
            term 7 6 7
            tell 0 1 2
            tell 0 8 3
            tell 1 6 2
            unlike 0 6 7
            level 0
            law 0 1 0
            law 1 0 1
            takeBack 0 1 -> 1
            tell 0 0 1
            unlike 1 0 6
            find 0 6 7 -> 2
            say 0 3 4 8 -1 63
            say 0 4 3 2 2 -1
            say 0 4 3 2 24 0
            say 0 8 3 0 1 0
            say 1 0 0 8 0 0
            say 1 0 0 9 0 0
            join 1 0 -> 8
            unsay 0
            unsay 0
            find 2 0 2 -> 3
            keep 5 2 -> 0
            keep 0 2 -> 0
            shorten 2 -> 0
            say 2 0 2 12 5 0
            shorten 2 -> 1
            keep 3 2 -> 0
            say 2 0 2 12 3 0
            knock
            back 0 -> 0
            drop 0 -> 2
            takeBack 1 0 -> 0
            unsay 1
            law 0 0 0
            """;

    /** All that can be full is: only LEVELS, knocks and what is taken back may change. */
    private static String full() {
        return fullTerms() + """
                times 5 level 0
                times 5 level 1
                times 12 tell 0 0 6
                tell 0 3 4
                tell 0 1 2
                times 14 tell 1 34 0
                times 6 unlike 0 1 2
                times 6 unlike 1 0 34
                law 0 1 1
                law 1 1 1
                say 0 0 6 0 0 0
                times 23 say 0 0 6 12 0 0
                times 24 say 1 1 1 1 -1 63
                times 12 say 2 0 1 8 0 0
                times 12 say 2 1 0 2 0 0
                keep 0 1 -> 0
                keep 1 1 -> 0
                keep 2 1 -> 0
                keep 3 1 -> 0
                keep 4 1 -> 0
                keep 5 1 -> 0
                """;
    }

    private static String refusedOfFull() {
        return "## Description: what is refused changes nothing in a full object\n" + full() + """
                term 6 63 0 -> -9
                term 7 19 19 -> -9
                term 8 0 0 -> A
                term 6 64 0 -> I
                put 57 3 19 -> -9           # p(x,o): of SIZE 17
                put 57 3 6 -> -9            # p(s(o),o): the 65th
                put 57 2 0 -> A
                put 64 3 0 -> I
                text 64 -> I
                ofTerm 0 6 -> A
                tell 0 0 0 -> S
                tell 1 0 0 -> S
                tell 0 64 0 -> I
                unlike 0 0 0 -> S
                unlike 1 0 0 -> S
                unlike 0 3 0 -> A
                takeBack 0 14 -> I
                law 2 0 0 -> I
                level 0 -> S
                level 1 -> S
                back 2 -> I
                ofBook 0 9 -> A
                say 0 0 0 1 0 0 -> S
                say 1 0 0 1 0 0 -> S
                say 2 0 0 1 0 0 -> S
                find 0 0 0 -> -9
                find 1 0 6 -> -9
                shorten 0 -> -9
                join 0 1 -> -9
                join 2 1 -> -9
                join 1 1 -> A
                unsay 3 -> I
                keep 0 0 -> -9
                keep 5 2 -> -9
                keep 6 1 -> I
                drop 6 -> I
                steps 0 0 64 0 -> I
                steps 0 0 0 5 -> A
                house 7 -> A
                takeBack 0 13 -> 13
                takeBack 0 13 -> S
                tell 0 0 0 -> S
                times 5 back 0 -> 0
                back 0 -> S
                house 0 -> 64
                house 2 -> 72
                house 4 -> 6
                """;
    }
}
