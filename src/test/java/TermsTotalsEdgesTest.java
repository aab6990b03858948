/** Terms, TOTAL: of nothing, of one and of many, at the ends of the ints, and where it wraps. */
public final class TermsTotalsEdgesTest {
    private static final int MIN = Integer.MIN_VALUE;
    private static final int MAX = Integer.MAX_VALUE;

    public static void main(String[] args) {
        ofNothing();
        ofNothingWithAnySum();
        ofOne();
        ofTwoAtTheEnds();
        sumsWrap();
        productsWrap();
        ofAll();
        eachOpenBeginsWithNothing();
        totalComesToTheSum();
        Check.end();
    }

    private static void ofNothing() {
        Check.same("a sum of nothing is 0", 0, closed(0, 0, ""));
        Check.same("a least of nothing is the greatest int", MAX, closed(1, 0, ""));
        Check.same("a greatest of nothing is the least int", MIN, closed(2, 0, ""));
        Check.same("a product of nothing is 1", 1, closed(3, 0, ""));
    }

    private static void ofNothingWithAnySum() {
        for (int sum : new int[] {MIN, -1, 1, MAX}) {
            Check.same("a sum of nothing is added", sum, closed(0, sum, ""));
            Check.same("a least of nothing is the sum then", MAX, closed(1, sum, ""));
            Check.same("a greatest of nothing is the sum then", MIN, closed(2, sum, ""));
            Check.same("a product of nothing is added", sum + 1, closed(3, sum, ""));
        }
    }

    private static void ofOne() {
        for (int sum : new int[] {MIN, -7, 0, 7, MAX}) {
            Check.same("a sum of one", sum + sum, closed(0, sum, "GIVE"));
            Check.same("a least of one", sum, closed(1, sum, "GIVE, TIMES 3"));
            Check.same("a greatest of one", sum, closed(2, sum, "GIVE, TIMES 3"));
            Check.same("a product of one", sum + sum, closed(3, sum, "GIVE"));
        }
    }

    private static void ofTwoAtTheEnds() {
        Check.same("the least is the first", MIN, closed(1, MIN, "GIVE, ADD -1, GIVE"));
        Check.same("the least is the last", MIN, closed(1, MAX, "GIVE, ADD 1, GIVE"));
        Check.same("the greatest is the first", MAX, closed(2, MAX, "GIVE, ADD 1, GIVE"));
        Check.same("the greatest is the last", MAX, closed(2, MIN, "GIVE, ADD -1, GIVE"));
        Check.same("the least of -1 and 0", -1, closed(1, -1, "GIVE, ADD 1, GIVE"));
        Check.same("the greatest of -1 and 0", 0, closed(2, -1, "GIVE, ADD 1, GIVE, ADD -9"));
        Check.same("the greatest below 0", -3, closed(2, -3, "GIVE, ADD -2, GIVE"));
        Check.same("the least above 0", 3, closed(1, 3, "GIVE, ADD 2, GIVE"));
    }

    private static void sumsWrap() {
        Check.same("above the greatest", MIN, closed(0, MAX, "GIVE, TIMES 0, ADD 1, GIVE, TIMES 0"));
        Check.same("below the least", MAX, closed(0, MIN, "GIVE, TIMES 0, ADD -1, GIVE, TIMES 0"));
        Check.same("sum and total", MIN, closed(0, 1, "GIVE, TIMES 0, ADD " + MAX));
        Check.same("in the root scope", MIN, Script.resultOf(MAX, "GIVE, TIMES 0, ADD 1, GIVE, TIMES 0"));
    }

    private static void productsWrap() {
        Check.same("65536 twice", 0, closed(3, 65536, "GIVE, GIVE, TIMES 0"));
        Check.same("46341 twice", -2147479015, closed(3, 46341, "GIVE, GIVE, TIMES 0"));
        Check.same("the least times -1", MIN, closed(3, MIN, "GIVE, TIMES 0, ADD -1, GIVE, TIMES 0"));
        Check.same("the greatest twice", 1, closed(3, MAX, "GIVE, GIVE, TIMES 0"));
        Check.same("sum and total", MIN, closed(3, MAX, ""));
        Check.same("a zero stays", 5, closed(3, 0, "GIVE, ADD 5, GIVE"));
    }

    private static void ofAll() {
        int[] due = {47 * 48 / 2, 1, 47, 0};
        for (int kind = 0; kind <= 3; kind++) {
            PhaserYard yard = Script.begun(47, 3, 0, "OPEN " + kind + ", ASYNC 1, ADD -1, IF 1, CLOSE", "GIVE");
            Script.runOn(yard, 1000);
            Check.same("of 47 in kind " + kind, due[kind], yard.result());
        }
    }

    private static void eachOpenBeginsWithNothing() {
        int[] due = {0, MAX, MIN, 1};
        for (int before = 0; before <= 3; before++) {
            for (int kind = 0; kind <= 3; kind++) {
                Check.same("kind " + kind + " after kind " + before, due[kind], Script.resultOf(9,
                    "OPEN " + before + ", GIVE, CLOSE, TIMES 0, OPEN " + kind + ", CLOSE"));
            }
        }
    }

    private static void totalComesToTheSum() {
        int[] due = {100 + 5, 5, 5, 100 + 5};
        for (int kind = 0; kind <= 3; kind++) {
            Check.same("kind " + kind, due[kind], closed(kind, 5, "GIVE, TIMES 20"));
            Check.same("kind " + kind + " at the end of the body", due[kind],
                Script.resultOf(5, "OPEN " + kind + ", GIVE, TIMES 20"));
        }
    }

    /** The SUM when a SCOPE of this KIND, with these INSTRUCTIONS in it, was closed. */
    private static int closed(int kind, int sum, String inside) {
        return Script.resultOf(sum, "OPEN " + kind + ", " + inside + (inside.isEmpty() ? "" : ", ") + "CLOSE");
    }
}
