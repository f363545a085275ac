/** The boundary cases of promises 39 to 41 and of "5. Tables", a script each. */
public final class TableEdgesTest {
    private TableEdgesTest() {
    }

    public static void main(String[] args) {
        Script.run("TableEdgesTest", TABLE_AT, TABLE_AT_NONE, all512(), byLaws(true, false), byLaws(false, true),
                byLaws(true, true), GONE, BOTH_SIDES, VALUE_IN, VALUE_IN_ORDER, digits(), VARIABLES, EQUAL_IN,
                EQUAL_IN_ORDER, EQUAL_WITH_ALL_VALUES, deep());
    }

    private static final String TABLE_AT = """
            ## Promise 39: BOOKS 0 and 1, places from the first to the last TABLE
            tableAt 0 0 -> 0
            tableAt 0 511 -> 511
            tableAt 0 512 -> I
            tableAt 0 -1 -> I
            tableAt 1 511 -> 511
            tableAt 2 0 -> I
            tableAt -1 0 -> I
            tableAt 0 2147483647 -> I
            tableAt 0 -2147483648 -> I
            tell 0 0 1
            tell 0 1 2                  # o, a, b are the same: TABLES with 0 or 7
            tableAt 0 0 -> 0
            tableAt 0 1 -> 7
            tableAt 0 2 -> 8
            tableAt 0 126 -> 504
            tableAt 0 127 -> 511
            tableAt 0 128 -> I
            tableAt 1 128 -> 128
            """;

    private static final String TABLE_AT_NONE = """
            ## Promise 39: of a BOOK without TABLES there is none at any place
            tell 1 3 0
            ofBook 1 7 -> 0
            tableAt 1 0 -> I
            tableAt 1 -1 -> I
            tableAt 0 0 -> 0
            takeBack 1 0
            tableAt 1 511 -> 511
            """;

    private static String all512() {
        StringBuilder text = new StringBuilder("## Promise 39: all 512, by rising numbers\n");
        for (int table = 0; table < 512; table++) {
            text.append("tableAt 0 ").append(table).append(" -> ").append(table).append('\n');
        }
        return text.append("tableAt 0 512 -> I\n").toString();
    }

    private static int p(int table, int left, int right) {
        return table >> (5 + 2 * left + right) & 1;
    }

    /** The TABLES of LAWS one by one, each with all VALUES, as the digits tell. */
    private static String byLaws(boolean isOrder, boolean isGroups) {
        StringBuilder text = new StringBuilder("## 5. Tables: each TABLE of LAWS, ORDER ").append(isOrder);
        text.append(", GROUPS ").append(isGroups).append('\n');
        text.append("law 1 ").append(isOrder ? 1 : 0).append(' ').append(isGroups ? 1 : 0).append('\n');
        int place = 0;
        for (int table = 0; table < 512; table++) {
            boolean isOne = true;
            for (int values = 0; values < 8; values++) {
                int x = values & 1;
                int y = values >> 1 & 1;
                int z = values >> 2 & 1;
                isOne &= !isOrder || p(table, x, y) == p(table, y, x);
                isOne &= !isGroups || p(table, p(table, x, y), z) == p(table, x, p(table, y, z));
            }
            if (isOne) {
                text.append("tableAt 1 ").append(place).append(" -> ").append(table).append('\n');
                place++;
            }
        }
        text.append("tableAt 1 ").append(place).append(" -> I\n");
        text.append("ofBook 1 7 -> ").append(place).append('\n');
        return text.append("ofBook 0 7 -> 512\n").toString();
    }

    private static final String GONE = """
            ## 5. Tables: those in which each EQUATION that is not GONE has equal sides; of UNLIKES none
            tell 0 0 1
            tell 0 1 2
            unlike 0 0 2
            ofBook 0 7 -> 128
            takeBack 0 0
            ofBook 0 7 -> 256
            tableAt 0 1 -> 1            # o need not be as a and b
            tableAt 0 2 -> 6
            takeBack 0 1
            ofBook 0 7 -> 512
            """;

    private static final String BOTH_SIDES = """
            ## 5. Tables: with all VALUES: sides with variables
            term 6 3 0 -> 6             # s(x)
            term 7 3 4 -> 7             # p(x,y)
            tell 0 6 3                  # s(x) = x: s of 0 is 0, s of 1 is 1: digit 4, not 3
            ofBook 0 7 -> 128
            tableAt 0 0 -> 16
            tell 0 7 4                  # p(x,y) = y: digits 6 and 8
            ofBook 0 7 -> 8
            tableAt 0 0 -> 336
            tableAt 0 7 -> 343
            tableAt 0 8 -> I
            tell 0 6 4                  # s(x) = y
            ofBook 0 7 -> 0
            """;

    private static final String VALUE_IN = """
            ## Promise 40: TABLES 0 to 511, VALUES 0 to 7, TERMS from the first to the last
            term 7 3 0 -> 6
            valueIn 0 0 0 -> 0
            valueIn 511 0 7 -> 1
            valueIn 0 6 0 -> 0
            valueIn 511 6 7 -> 1
            valueIn 0 7 0 -> I
            valueIn 0 -1 0 -> I
            valueIn 512 0 0 -> A
            valueIn -1 0 0 -> A
            valueIn 0 0 8 -> A
            valueIn 0 0 -1 -> A
            valueIn 2147483647 0 0 -> A
            valueIn -2147483648 0 0 -> A
            valueIn 0 0 2147483647 -> A
            valueIn 0 2147483647 0 -> I
            """;

    private static final String VALUE_IN_ORDER = """
            ## Promise 40: no such TERM ahead of TABLES and VALUES
            valueIn 512 6 0 -> I
            valueIn 0 6 8 -> I
            valueIn -1 -1 -1 -> I
            valueIn 512 0 8 -> A
            """;

    private static String digits() {
        StringBuilder text = new StringBuilder("## 5. Tables: each digit alone, the least first: o a b, s0 s1, p00 p01 p10 p11\n");
        text.append("term 6 3 0 -> 6\nterm 7 3 4 -> 7\n");
        for (int digit = 0; digit < 9; digit++) {
            int table = 1 << digit;
            for (int constant = 0; constant < 3; constant++) {
                appendValue(text, table, constant, 0, digit == constant);
            }
            for (int values = 0; values < 4; values++) {
                appendValue(text, table, 6, values, digit == 3 + (values & 1));
                appendValue(text, table, 7, values, digit == 5 + 2 * (values & 1) + (values >> 1));
            }
        }
        return text.toString();
    }

    private static void appendValue(StringBuilder text, int table, int t, int values, boolean isOne) {
        text.append("valueIn ").append(table).append(' ').append(t).append(' ').append(values);
        text.append(" -> ").append(isOne ? 1 : 0).append('\n');
    }

    private static final String VARIABLES = """
            ## 5. Tables: VALUES x + 2 * y + 4 * z, in whichever TABLE
            valueIn 0 3 1 -> 1
            valueIn 0 3 6 -> 0
            valueIn 511 3 0 -> 0
            valueIn 511 3 7 -> 1
            valueIn 0 4 2 -> 1
            valueIn 0 4 5 -> 0
            valueIn 511 4 3 -> 1
            valueIn 511 4 4 -> 0
            valueIn 0 5 4 -> 1
            valueIn 0 5 3 -> 0
            valueIn 511 5 5 -> 1
            valueIn 511 5 2 -> 0
            """;

    private static final String EQUAL_IN = """
            ## Promise 41: TABLES 0 to 511, TERMS from the first to the last
            term 6 1 0 -> 6
            equalIn 0 0 1 -> true
            equalIn 511 1 2 -> true
            equalIn 511 6 0 -> true
            equalIn 0 0 6 -> true
            equalIn 1 0 1 -> false
            equalIn 510 0 1 -> false
            equalIn 512 0 0 -> A
            equalIn -1 0 0 -> A
            equalIn 0 7 0 -> I
            equalIn 0 0 7 -> I
            equalIn 0 -1 0 -> I
            equalIn 0 0 -1 -> I
            equalIn 2147483647 0 0 -> A
            equalIn -2147483648 0 0 -> A
            """;

    private static final String EQUAL_IN_ORDER = """
            ## Promise 41: no such TERM ahead of TABLES
            equalIn 512 6 0 -> I
            equalIn 512 0 6 -> I
            equalIn -1 -1 0 -> I
            equalIn -1 0 -1 -> I
            equalIn 512 0 0 -> A
            """;

    private static final String EQUAL_WITH_ALL_VALUES = """
            ## 5. Tables: equal with all VALUES of variables, not with some
            term 7 3 4 -> 6             # p(x,y)
            term 7 6 5 -> 7             # p(p(x,y),z)
            equalIn 0 3 3 -> true
            equalIn 0 3 4 -> false
            equalIn 0 3 0 -> false
            equalIn 511 3 0 -> false
            equalIn 0 6 7 -> true
            equalIn 256 6 7 -> false    # and: not with x, y as 1, z as 0
            equalIn 256 6 0 -> false    # with x, y as 1 alone
            equalIn 480 6 7 -> true
            equalIn 384 6 3 -> true     # the left one
            equalIn 384 7 6 -> true
            equalIn 384 7 5 -> false
            equalIn 320 7 5 -> true     # the right one
            """;

    /** s of s 14 times: with s as not, with s as it is, with s always 0 or 1. */
    private static String deep() {
        return "## Promises 40 and 41: SIZE 15\n" + TermEdgesTest.row(3, 6, 14) + """
            valueIn 8 19 0 -> 0         # s of 0 is 1, s of 1 is 0: 14 times
            valueIn 8 19 1 -> 1
            valueIn 8 18 0 -> 1         # 13 times
            valueIn 16 18 0 -> 0
            valueIn 16 18 1 -> 1
            valueIn 0 19 1 -> 0
            valueIn 24 19 0 -> 1
            equalIn 8 19 3 -> true
            equalIn 8 18 3 -> false
            equalIn 24 19 18 -> true
            """;
    }
}
