/** The boundary cases of promises 1 to 5 and of "1. Terms", a script each. */
public final class TermEdgesTest {
    private TermEdgesTest() {
    }

    public static void main(String[] args) {
        Script.run("TermEdgesTest", NEW_TERMS, NEW_BOOKS, NEW_PROOFS, NEW_LEMMAS, SIGNS, SIGNS_WRONG, PARTS,
                PARTS_LEFT_ALONE, sizeOfS(), sizeOfP(), sizeAndFull(), fullByS(), fullByP(), fullAgain(),
                PUT_VARIABLES, PUT_NUMBERS, PUT_ALL_PLACES, PUT_NONE, putSize(), putFull(), putFullAgain(),
                PUT_REFUSED_HALFWAY, TEXT_NUMBERS, longestText(), OF_TERM_WHAT, OF_TERM_NUMBERS, OF_TERM_NONE,
                OF_TERM_VARIABLES, BARE_DEEP);
    }

    private static final String NEW_TERMS = """
            ## Promise 1: the first six TERMS, with their numbers, and no seventh
            text 0 -> o
            text 1 -> a
            text 2 -> b
            text 3 -> x
            text 4 -> y
            text 5 -> z
            text 6 -> I
            text -1 -> I
            house 0 -> 6
            house 1 -> 3
            house 6 -> 0
            ofTerm 0 0 -> 0
            ofTerm 5 0 -> 5
            ofTerm 0 1 -> 1
            ofTerm 2 2 -> 1
            ofTerm 3 2 -> 0
            """;

    private static final String NEW_BOOKS = """
            ## Promise 1: two BOOKS, both empty: no EQUATION, no UNLIKES, no LEVEL, no LAW
            equation 0 0 -> I
            equation 1 0 -> I
            takeBack 0 0 -> I
            takeBack 1 0 -> I
            without 0 0 0 0 -> I
            without 1 0 0 0 -> I
            back 0 -> S
            back 1 -> S
            ofBook 0 0 -> 0
            ofBook 0 1 -> 0
            ofBook 0 2 -> 0
            ofBook 0 3 -> 0
            ofBook 0 4 -> 0
            ofBook 0 5 -> 0
            ofBook 0 6 -> 3
            ofBook 0 7 -> 512
            ofBook 0 8 -> -1
            ofBook 1 0 -> 0
            ofBook 1 1 -> 0
            ofBook 1 2 -> 0
            ofBook 1 3 -> 0
            ofBook 1 4 -> 0
            ofBook 1 5 -> 0
            ofBook 1 6 -> 3
            ofBook 1 7 -> 512
            ofBook 1 8 -> -1
            like 0 0 1 -> false
            like 1 1 2 -> false
            classOf 0 2 -> 2
            round 0 0 1 -> -1
            path 0 0 1 -> -
            path 1 2 2 -> 2
            why 0 0 1 -> -
            why 1 2 2 ->
            clashWhy 0 -> -
            clashWhy 1 -> -
            common -> 3
            steps 0 0 1 4 -> -1
            meet 1 0 1 3 -> -1
            reached 0 3 4 -> 1
            tableAt 0 511 -> 511
            tableAt 1 512 -> I
            law 0 0 0 -> 0
            law 1 0 0 -> 0
            """;

    private static final String NEW_PROOFS = """
            ## Promise 1: three PROOFS, all without lines
            house 2 -> 0
            house 3 -> 0
            firstWrong 0 -> -1
            firstWrong 1 -> -1
            firstWrong 2 -> -1
            line 0 0 -> I
            line 1 0 -> I
            line 2 0 -> I
            hangs 2 0 -> I
            ofLine 2 0 0 -> I
            fails 2 0 -> I
            unsay 0 -> S
            unsay 1 -> S
            unsay 2 -> S
            shorten 0 -> -9
            shorten 1 -> -9
            shorten 2 -> -9
            join 0 1 -> 0
            join 2 0 -> 0
            isSound -> true
            """;

    private static final String NEW_LEMMAS = """
            ## Promise 1: no lemma of any name
            house 4 -> 0
            house 5 -> 0
            ofLemma 0 0 -> I
            ofLemma 5 0 -> I
            drop 0 -> I
            drop 5 -> I
            keep 0 0 -> -9
            keep 5 2 -> -9
            """;

    private static final String SIGNS = """
            ## 1. Terms: SIGNS 0 to 7, and what they are
            term 0 0 0 -> 0
            term 1 0 0 -> 1
            term 2 0 0 -> 2
            term 3 0 0 -> 3
            term 4 0 0 -> 4
            term 5 0 0 -> 5
            house 0 -> 6
            term 6 2 0 -> 6
            term 7 2 5 -> 7
            text 6 -> s(b)
            text 7 -> p(b,z)
            ofTerm 6 0 -> 6
            ofTerm 7 0 -> 7
            """;

    private static final String SIGNS_WRONG = """
            ## Promise 2: a sign that is not 0 to 7, ahead of what is wrong with the parts
            term -1 0 0 -> A
            term 8 0 0 -> A
            term 2147483647 0 0 -> A
            term -2147483648 0 0 -> A
            term 8 6 0 -> A
            term 8 0 6 -> A
            term -1 -1 -1 -> A
            house 0 -> 6
            """;

    private static final String PARTS = """
            ## Promise 2: parts from the first TERM to the last, and none beside
            term 6 0 0 -> 6
            term 6 6 0 -> 7
            term 6 8 0 -> I
            term 6 -1 0 -> I
            term 6 64 0 -> I
            term 6 2147483647 0 -> I
            term 6 -2147483648 0 -> I
            term 7 0 7 -> 8
            term 7 8 0 -> 9
            term 7 10 0 -> I
            term 7 0 10 -> I
            term 7 -1 0 -> I
            term 7 0 -1 -> I
            term 7 10 10 -> I
            term 7 0 2147483647 -> I
            term 7 9 9 -> 10
            house 0 -> 11
            """;

    private static final String PARTS_LEFT_ALONE = """
            ## Promise 2: left is not looked at without parts, right with p alone
            term 0 -1 -1 -> 0
            term 1 6 6 -> 1
            term 2 64 -2147483648 -> 2
            term 3 -1 6 -> 3
            term 4 6 -1 -> 4
            term 5 2147483647 99 -> 5
            term 6 0 -1 -> 6
            term 6 0 99 -> 6
            term 6 0 2147483647 -> 6
            term 6 1 7 -> 7
            ofTerm 7 4 -> -1
            house 0 -> 8
            """;

    /** The lines of a script that make s(of), s(s(of)) and so on, with the numbers from first on. */
    static String row(int of, int first, int count) {
        StringBuilder text = new StringBuilder();
        for (int k = 0; k < count; k++) {
            text.append("term 6 ").append(k == 0 ? of : first + k - 1).append(" 0 -> ").append(first + k).append('\n');
        }
        return text.toString();
    }

    private static String sizeOfS() {
        return "## Promise 2: with s SIZE 15 is made, 16 is not\n" + row(1, 6, 14) + """
            ofTerm 19 1 -> 15
            ofTerm 18 1 -> 14
            term 6 19 0 -> -9
            house 0 -> 20
            text 20 -> I
            term 6 18 0 -> 19           # it is there
            """;
    }

    private static String sizeOfP() {
        return "## Promise 2: with p SIZE 15 is made, 16 is not, whichever part is larger\n" + row(1, 6, 14) + """
            term 7 17 0 -> 20           # 13 + 1 + 1
            ofTerm 20 1 -> 15
            term 7 0 17 -> 21
            term 7 18 0 -> -9           # 14 + 1 + 1
            term 7 0 18 -> -9
            term 7 11 11 -> 22          # 7 + 7 + 1
            term 7 11 12 -> -9
            term 7 12 11 -> -9
            term 7 10 12 -> 23          # 6 + 8 + 1
            term 7 20 20 -> -9          # 31
            house 0 -> 24
            ofTerm 23 1 -> 15
            """;
    }

    private static String sizeAndFull() {
        StringBuilder text = new StringBuilder("## Promise 2: too large, and 64 TERMS\n");
        text.append(row(1, 6, 14));
        appendPairs(text, 20, 64);
        text.append("term 6 19 0 -> -9\n");
        text.append("term 7 19 19 -> -9\n");
        text.append("term 6 64 0 -> I\n");
        text.append("term 9 19 0 -> A\n");
        text.append("house 0 -> 64\n");
        return text.toString();
    }

    /** Lines that make p of two of o, a, b, x, y, z, s(..), s(s(..)) .. until there are so many TERMS. */
    static void appendPairs(StringBuilder text, int first, int most) {
        for (int k = first; k < most; k++) {
            text.append("term 7 ").append((k - first) / 8).append(' ').append((k - first) % 8);
            text.append(" -> ").append(k).append('\n');
        }
    }

    private static String fullByS() {
        StringBuilder text = new StringBuilder("## Promise 2: the 64th TERM is made, the 65th is not: by s\n");
        text.append(row(1, 6, 2));
        appendPairs(text, 8, 63);
        text.append("house 0 -> 63\n");
        text.append("term 6 2 0 -> 63\n");
        text.append("term 6 3 0 -> -9\n");
        text.append("term 7 7 7 -> -9\n");
        text.append("house 0 -> 64\n");
        text.append("text 63 -> s(b)\n");
        text.append("text 64 -> I\n");
        return text.toString();
    }

    private static String fullByP() {
        StringBuilder text = new StringBuilder("## Promise 2: the 64th TERM is made, the 65th is not: by p\n");
        text.append(row(1, 6, 2));
        appendPairs(text, 8, 63);
        text.append("term 7 7 7 -> 63\n");
        text.append("term 7 6 6 -> 62\n");      // the last one ahead of it
        text.append("term 7 7 62 -> -9\n");
        text.append("term 6 63 0 -> -9\n");
        text.append("house 0 -> 64\n");
        text.append("ofTerm 63 3 -> 7\n");
        text.append("ofTerm 64 3 -> I\n");
        return text.toString();
    }

    private static String fullAgain() {
        StringBuilder text = new StringBuilder("## Promise 2: with 64 TERMS those that are there have their numbers\n");
        text.append(row(1, 6, 2));
        appendPairs(text, 8, 64);
        text.append("term 0 0 0 -> 0\nterm 5 0 0 -> 5\nterm 6 1 0 -> 6\nterm 6 6 0 -> 7\n");
        text.append("term 7 0 0 -> 8\nterm 7 6 7 -> 63\nterm 7 0 64 -> I\nterm 7 64 0 -> I\n");
        text.append("house 0 -> 64\n");
        return text.toString();
    }

    private static final String PUT_VARIABLES = """
            ## Promise 3: variable 3 to 5, behind what is wrong with the TERMS
            term 7 3 4 -> 6
            term 7 6 5 -> 7             # p(p(x,y),z)
            put 7 3 0 -> 9
            text 9 -> p(p(o,y),z)
            put 7 5 0 -> 10
            text 10 -> p(p(x,y),o)
            put 7 4 0 -> 12
            text 12 -> p(p(x,o),z)
            put 7 2 0 -> A
            put 7 6 0 -> A
            put 7 -1 0 -> A
            put 7 2147483647 0 -> A
            put 0 0 0 -> A
            put 13 6 0 -> I
            put 7 2 13 -> I
            put -1 6 -1 -> I
            house 0 -> 13
            """;

    private static final String PUT_NUMBERS = """
            ## Promise 3: TERMS from the first to the last, and none beside
            term 6 3 0 -> 6
            put 6 3 6 -> 7
            put 0 3 7 -> 0
            put 7 3 0 -> 9
            put 10 3 0 -> I
            put -1 3 0 -> I
            put 3 3 10 -> I
            put 3 3 -1 -> I
            put 0 3 10 -> I             # looked at, though x stands nowhere in o
            put 2147483647 3 0 -> I
            put 3 3 -2147483648 -> I
            put 3 3 9 -> 9
            house 0 -> 10
            """;

    private static final String PUT_ALL_PLACES = """
            ## 1. Terms: PUT at each place of the variable, and of no other, at once
            term 7 3 4 -> 6             # p(x,y)
            term 7 6 3 -> 7             # p(p(x,y),x)
            term 6 7 0 -> 8
            put 8 3 4 -> 11
            text 9 -> p(y,y)
            text 10 -> p(p(y,y),y)
            text 11 -> s(p(p(y,y),y))
            put 8 3 6 -> 14
            text 14 -> s(p(p(p(x,y),y),p(x,y)))
            text 13 -> p(p(p(x,y),y),p(x,y))
            text 12 -> p(p(x,y),y)
            put 3 3 3 -> 3
            put 3 3 1 -> 1
            put 4 3 1 -> 4
            """;

    private static final String PUT_NONE = """
            ## Promise 3: where the variable does not stand nothing is made
            term 7 3 0 -> 6
            put 6 4 6 -> 6
            put 6 5 1 -> 6
            put 0 3 6 -> 0
            put 2 5 6 -> 2
            put 6 3 3 -> 6
            house 0 -> 7
            """;

    private static String putSize() {
        return "## Promise 3: SIZE 15 comes, 16 does not\n" + row(0, 6, 14) + """
            term 6 3 0 -> 20            # s(x)
            put 20 3 18 -> 19           # 1 + 14: there already
            put 20 3 19 -> -9           # 1 + 15
            term 7 3 3 -> 21
            put 21 3 11 -> 22           # 7 + 7 + 1
            ofTerm 22 1 -> 15
            put 21 3 12 -> -9           # 8 + 8 + 1
            term 7 3 4 -> 23            # p(x,y)
            put 23 3 17 -> 24           # p(13,y)
            ofTerm 24 1 -> 15
            put 23 3 18 -> -9           # p(14,y)
            put 3 3 19 -> 19            # all of it
            put 23 5 19 -> 23           # z does not stand there
            house 0 -> 25
            """;
    }

    private static String putFull() {
        StringBuilder text = new StringBuilder("## Promise 3: as many new TERMS as have place come, one more does not\n");
        text.append(row(3, 6, 3));      // s(x), s(s(x)), s(s(s(x)))
        appendPairs(text, 9, 61);
        text.append("house 0 -> 61\n");
        text.append("put 8 3 1 -> 63\n");
        text.append("text 61 -> s(a)\ntext 62 -> s(s(a))\ntext 63 -> s(s(s(a)))\n");
        text.append("put 6 3 0 -> -9\nput 8 3 0 -> -9\nput 8 3 3 -> 8\nput 8 3 64 -> I\nput 8 2 0 -> A\n");
        text.append("house 0 -> 64\nnew\n");
        text.append(row(3, 6, 3));
        appendPairs(text, 9, 62);
        text.append("put 8 3 1 -> -9\nhouse 0 -> 62\ntext 62 -> I\n");
        text.append("put 7 3 1 -> 63\ntext 62 -> s(a)\ntext 63 -> s(s(a))\nhouse 0 -> 64\n");
        return text.toString();
    }

    private static String putFullAgain() {
        StringBuilder text = new StringBuilder("## Promise 3: with 64 TERMS what is there already comes\n");
        text.append("term 6 3 0 -> 6\nterm 6 1 0 -> 7\nterm 7 6 6 -> 8\nterm 7 7 7 -> 9\n");
        appendPairs(text, 10, 64);
        text.append("put 8 3 1 -> 9\nput 6 3 1 -> 7\nput 6 3 0 -> -9\nput 8 3 2 -> -9\nhouse 0 -> 64\n");
        return text.toString();
    }

    private static final String PUT_REFUSED_HALFWAY = """
            ## Promise 3: what is too large leaves none of its parts behind
            term 6 3 0 -> 6             # s(x)
            term 7 6 6 -> 7             # p(s(x),s(x)): 5
            term 7 7 6 -> 8             # 8
            term 7 8 8 -> -9            # 17
            term 7 7 7 -> 9             # 11
            put 9 3 1 -> 12             # s(a), p(s(a),s(a)), 11
            put 9 3 6 -> 15             # 4 * 1 more: 15
            ofTerm 15 1 -> 15
            text 13 -> s(s(x))
            text 14 -> p(s(s(x)),s(s(x)))
            put 9 3 13 -> -9            # 19; neither s(s(s(x))) nor p of two of it is kept
            house 0 -> 16
            term 6 13 0 -> 16
            text 16 -> s(s(s(x)))
            """;

    private static final String TEXT_NUMBERS = """
            ## Promise 4: from the first TERM to the last, and none beside
            term 7 0 5 -> 6
            text 0 -> o
            text 6 -> p(o,z)
            text 7 -> I
            text -1 -> I
            text 63 -> I
            text 64 -> I
            text 2147483647 -> I
            text -2147483648 -> I
            """;

    private static String longestText() {
        return "## Promise 4: the texts of SIZE 15: 14 s, seven p\n" + row(5, 6, 14) + """
            text 19 -> s(s(s(s(s(s(s(s(s(s(s(s(s(s(z))))))))))))))
            term 7 0 1 -> 20
            term 7 20 2 -> 21
            term 7 3 21 -> 22
            term 7 4 22 -> 23
            term 7 23 5 -> 24
            term 7 24 0 -> 25
            term 7 1 25 -> 26
            ofTerm 26 1 -> 15
            text 26 -> p(a,p(p(p(y,p(x,p(p(o,a),b))),z),o))
            """;
    }

    private static final String OF_TERM_WHAT = """
            ## Promise 5: what 0 to 5, behind what is wrong with the TERM
            term 7 3 0 -> 6
            ofTerm 6 0 -> 7
            ofTerm 6 5 -> 1
            ofTerm 6 -1 -> A
            ofTerm 6 6 -> A
            ofTerm 6 2147483647 -> A
            ofTerm 6 -2147483648 -> A
            ofTerm 7 -1 -> I
            ofTerm -1 6 -> I
            """;

    private static final String OF_TERM_NUMBERS = """
            ## Promise 5: from the first TERM to the last, and none beside
            term 7 3 0 -> 6
            ofTerm 0 0 -> 0
            ofTerm 6 1 -> 3
            ofTerm 7 0 -> I
            ofTerm -1 0 -> I
            ofTerm 64 0 -> I
            ofTerm 2147483647 5 -> I
            """;

    private static final String OF_TERM_NONE = """
            ## Promise 5: NONE for a part that is not there: both without parts, the right one of s
            term 6 1 2 -> 6
            term 7 0 6 -> 7
            ofTerm 0 3 -> -1
            ofTerm 0 4 -> -1
            ofTerm 5 3 -> -1
            ofTerm 5 4 -> -1
            ofTerm 6 3 -> 1
            ofTerm 6 4 -> -1
            ofTerm 7 3 -> 0             # number 0 is a part as well
            ofTerm 7 4 -> 6
            """;

    private static final String OF_TERM_VARIABLES = """
            ## Promise 5: 1 for x, 2 for y, 4 for z, summed, each once; 0 without
            term 7 3 3 -> 6
            term 7 4 5 -> 7
            term 7 6 7 -> 8
            term 7 3 5 -> 9
            ofTerm 0 5 -> 0
            ofTerm 2 5 -> 0
            ofTerm 3 5 -> 1
            ofTerm 4 5 -> 2
            ofTerm 5 5 -> 4
            ofTerm 6 5 -> 1
            ofTerm 7 5 -> 6
            ofTerm 8 5 -> 7
            ofTerm 9 5 -> 5
            """;

    private static final String BARE_DEEP = """
            ## 1. Terms: BARE, if no variable stands in it, on whichever side and however deep
            term 7 0 1 -> 6
            term 7 6 6 -> 7
            term 7 7 5 -> 8
            term 7 3 7 -> 9
            term 6 8 0 -> 10
            term 6 7 0 -> 11
            ofTerm 7 2 -> 1
            ofTerm 8 2 -> 0
            ofTerm 9 2 -> 0
            ofTerm 10 2 -> 0
            ofTerm 11 2 -> 1
            house 1 -> 6
            """;
}
