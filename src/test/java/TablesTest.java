/** Promises 39 to 41: tableAt, valueIn, equalIn. */
public final class TablesTest {
    private TablesTest() {
    }

    public static void main(String[] args) {
        Script.run("TablesTest", TABLE_AT, BY_LAWS, VALUE_IN, VALUE_OF_PARTS, EQUAL_IN, all());
    }

    // Promise 39
    private static final String TABLE_AT = """
            tableAt 0 0 -> 0
            tableAt 0 17 -> 17
            tableAt 0 511 -> 511
            tableAt 0 512 -> throws.IndexOutOfBoundsException
            tableAt 0 -1 -> throws.IndexOutOfBoundsException
            tableAt 2 0 -> throws.IndexOutOfBoundsException
            tableAt -1 0 -> throws.IndexOutOfBoundsException
            tell 0 0 1                  # o and a are digits 0 and 1
            tableAt 0 0 -> 0
            tableAt 0 1 -> 3
            tableAt 0 2 -> 4
            tableAt 0 3 -> 7
            tableAt 0 4 -> 8
            tableAt 0 255 -> 511
            tableAt 0 256 -> throws.IndexOutOfBoundsException
            tableAt 1 1 -> 1
            term 6 3 0 -> 6             # s(x)
            tell 0 6 3                  # s of 0 is 0, s of 1 is 1
            tableAt 0 0 -> 16
            tableAt 0 3 -> 23
            tableAt 0 4 -> 48
            ofBook 0 7 -> 64
            tell 0 2 2
            unlike 0 0 1                # UNLIKES do not matter
            ofBook 0 7 -> 64
            takeBack 0 0
            tableAt 0 1 -> 17
            ofBook 0 7 -> 128
            tell 0 3 4                  # x and y are not the same with all VALUES
            ofBook 0 7 -> 0
            tableAt 0 0 -> throws.IndexOutOfBoundsException
            tableAt 0 -1 -> throws.IndexOutOfBoundsException
            """;

    // ORDER: p of 0 and 1 as p of 1 and 0 (digits 6 and 7). GROUPS: 8 of the 16 p, 32 TABLES with each.
    private static final String BY_LAWS = """
            law 0 1 0
            ofBook 0 7 -> 256
            tableAt 0 63 -> 63
            tableAt 0 64 -> 192
            law 0 0 1
            ofBook 0 7 -> 256
            tableAt 0 31 -> 31          # always 0
            tableAt 0 32 -> 192         # whether they differ
            tableAt 0 64 -> 256         # and
            tableAt 0 96 -> 288         # whether they are the same
            tableAt 0 128 -> 320        # the right one
            tableAt 0 160 -> 384        # the left one
            tableAt 0 192 -> 448        # or
            tableAt 0 224 -> 480        # always 1
            tableAt 0 255 -> 511
            law 0 1 1
            ofBook 0 7 -> 192
            tableAt 0 128 -> 448        # without the right one and the left one
            tableAt 1 32 -> 32
            law 0 0 0
            tableAt 0 32 -> 32
            """;

    // Promise 40
    private static final String VALUE_IN = """
            valueIn 0 0 0 -> 0
            valueIn 1 0 0 -> 1
            valueIn 2 0 7 -> 0
            valueIn 2 1 0 -> 1
            valueIn 4 2 0 -> 1
            valueIn 3 2 0 -> 0
            valueIn 0 3 1 -> 1
            valueIn 0 3 6 -> 0
            valueIn 0 4 2 -> 1
            valueIn 0 4 5 -> 0
            valueIn 511 5 3 -> 0
            valueIn 0 5 4 -> 1
            valueIn 0 6 0 -> throws.IndexOutOfBoundsException
            valueIn 512 -1 8 -> throws.IndexOutOfBoundsException
            valueIn 512 0 0 -> throws.IllegalArgumentException
            valueIn -1 0 0 -> throws.IllegalArgumentException
            valueIn 0 0 8 -> throws.IllegalArgumentException
            valueIn 0 0 -1 -> throws.IllegalArgumentException
            """;

    private static final String VALUE_OF_PARTS = """
            term 6 3 0 -> 6             # s(x)
            term 7 3 4 -> 7             # p(x,y)
            term 6 7 0 -> 8             # s(p(x,y))
            term 7 6 5 -> 9             # p(s(x),z)
            valueIn 8 6 0 -> 1
            valueIn 8 6 1 -> 0
            valueIn 16 6 0 -> 0
            valueIn 16 6 1 -> 1
            valueIn 32 7 0 -> 1
            valueIn 32 7 1 -> 0
            valueIn 32 7 3 -> 0
            valueIn 64 7 2 -> 1         # x 0, y 1
            valueIn 64 7 1 -> 0
            valueIn 128 7 1 -> 1        # x 1, y 0
            valueIn 128 7 2 -> 0
            valueIn 256 7 3 -> 1
            valueIn 256 7 2 -> 0
            valueIn 264 8 3 -> 0        # and; s is not
            valueIn 264 8 1 -> 1
            valueIn 264 9 4 -> 1
            valueIn 264 9 5 -> 0
            valueIn 264 9 0 -> 0
            """;

    // Promise 41
    private static final String EQUAL_IN = """
            term 7 3 4 -> 6             # p(x,y)
            term 7 4 3 -> 7             # p(y,x)
            term 6 0 0 -> 8             # s(o)
            equalIn 0 0 0 -> true
            equalIn 0 0 1 -> true
            equalIn 1 0 1 -> false
            equalIn 3 0 1 -> true
            equalIn 0 3 3 -> true
            equalIn 0 3 0 -> false
            equalIn 0 3 4 -> false
            equalIn 0 6 7 -> true
            equalIn 64 6 7 -> false
            equalIn 192 6 7 -> true
            equalIn 511 6 7 -> true
            equalIn 511 6 0 -> true
            equalIn 479 6 0 -> false    # without digit 5
            equalIn 1 8 0 -> false
            equalIn 17 8 0 -> true
            equalIn 8 8 0 -> false
            equalIn 512 0 0 -> throws.IllegalArgumentException
            equalIn -1 0 0 -> throws.IllegalArgumentException
            equalIn 512 9 0 -> throws.IndexOutOfBoundsException
            equalIn -1 0 9 -> throws.IndexOutOfBoundsException
            equalIn 0 0 -1 -> throws.IndexOutOfBoundsException
            """;

    // Each TABLE and VALUES of p(s(x),p(a,z)), as the digits tell.
    private static String all() {
        StringBuilder text = new StringBuilder();
        text.append("term 6 3 0 -> 6\nterm 7 1 5 -> 7\nterm 7 6 7 -> 8\n");
        for (int table = 0; table < 512; table++) {
            for (int values = 0; values < 8; values++) {
                int s = table >> (3 + (values & 1)) & 1;
                int p = table >> (5 + 2 * (table >> 1 & 1) + (values >> 2 & 1)) & 1;
                int all = table >> (5 + 2 * s + p) & 1;
                text.append("valueIn ").append(table).append(" 8 ").append(values);
                text.append(" -> ").append(all).append('\n');
            }
        }
        return text.toString();
    }
}
