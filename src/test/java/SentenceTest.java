/** Promises 42 and 43: what may be said of which hand. */
public final class SentenceTest {
    private static final String LAND = "street s;street t;hand a s 9 10;hand b t 5 20 child;hand c t 3 30;hand d s 20 0 child;"
            + "question q;question r;wants a q left;wants b q right;wants c q left;wants b r left;";

    public static void main(String[] args) {
        none();
        ones();
        joined();
        kth();
        asItIsNow();
        Check.finish("SentenceTest");
    }

    private static void none() {
        ClogVotes x = Check.valley(LAND);
        Check.same("said(NONE) without a sentence", x.said(Check.NONE), Check.NONE);
        Check.same("said(0) without a sentence", x.said(0), Check.NONE);
        Check.sentence(x, "child and");
        Check.same("said(NONE) behind a fault", x.said(Check.NONE), Check.NONE);
    }

    /** A sentence of so many ones may be said of these hands, as bits. */
    private static void said(String text, int ones, int due) {
        ClogVotes x = Check.valley(LAND);
        x.strike(2);
        Check.same("sentence() of " + text, Check.sentence(x, text), ones);
        int got = 0;
        int many = x.said(Check.NONE);
        for (int k = 0; k < many; k++) {
            got |= 1 << x.said(k);
        }
        Check.same("said() of " + text, got, due);
        Check.same("said(NONE) of " + text, many, Integer.bitCount(due));
        Check.same("said() beyond, of " + text, x.said(many), Check.NONE);
    }

    private static void ones() {
        said("silent", 1, 4);
        said("child", 1, 10);
        said("of s", 1, 9);
        said("of t", 1, 6);
        said("for q", 1, 5);
        said("for r", 1, 2);
        said("against q", 1, 2);
        said("against r", 1, 0);
        said("irons < 5", 1, 4);
        said("irons = 5", 1, 2);
        said("irons > 5", 1, 9);
        said("coin<20", 1, 9);
        said("coin=020", 1, 2);
        said("coin>20", 1, 4);
        said("coin > 999", 1, 0);
        said("number < 2", 1, 3);
        said("number = 0", 1, 1);
        said("number > 2", 1, 8);
    }

    private static void joined() {
        said("not child", 2, 5);
        said("not not child", 3, 10);
        said("(child)", 2, 10);
        said("child and of s", 2, 8);
        said("child or of s", 2, 11);
        said("silent or child and of s", 3, 12);
        said("child and of s or silent", 3, 12);
        said("(silent or child) and of s", 4, 8);
        said("of s and (silent or child)", 4, 8);
        said("not silent and child", 3, 10);
        said("not (silent or child)", 4, 1);
        said("not silent or child", 3, 11);
        said("not child or not of s and not for q", 6, 7);
        said("child and child and of t or of s and number=0", 5, 3);
        said("silent or silent or number=3 and child", 4, 12);
        said("((((((not child))))))", 8, 5);
        said("child" + Check.times(" and child", 18) + " or of t", 20, 14);
    }

    private static void kth() {
        ClogVotes x = Check.valley(LAND);
        Check.same("sentence()", Check.sentence(x, "\n child\nor number = 2 "), 2);
        Check.same("said(NONE)", x.said(Check.NONE), 3);
        Check.same("said(0)", x.said(0), 1);
        Check.same("said(1)", x.said(1), 2);
        Check.same("said(2)", x.said(2), 3);
        Check.same("said(3)", x.said(3), Check.NONE);
        Check.same("said(-2)", x.said(-2), Check.NONE);
        Check.same("said of the least", x.said(Integer.MIN_VALUE), Check.NONE);
        Check.same("said of the greatest", x.said(Integer.MAX_VALUE), Check.NONE);
        ClogVotes nobody = Check.valley("question q;");
        Check.same("sentence() of nobody", Check.sentence(nobody, "not for q"), 2);
        Check.same("said(NONE)", nobody.said(Check.NONE), 0);
        Check.same("said(0)", nobody.said(0), Check.NONE);
    }

    private static void asItIsNow() {
        ClogVotes x = Check.valley(LAND);
        Check.sentence(x, "silent or coin > 30 or for r");
        Check.same("said(NONE)", x.said(Check.NONE), 1);
        x.strike(3);
        Check.same("said(1)", x.said(1), 3);
        x.days(1);
        Check.same("said(1)", x.said(1), 2);
        x.sway(1, 1, 1);
        Check.same("said(NONE)", x.said(Check.NONE), 2);
        x.undo();
        Check.same("said(NONE)", x.said(Check.NONE), 3);
        Check.same("sentence() with a fault", Check.sentence(x, "child."), -6);
        Check.same("said(NONE), the sentence stays", x.said(Check.NONE), 3);
        Check.same("sentence()", Check.sentence(x, "child"), 1);
        Check.same("said(NONE)", x.said(Check.NONE), 2);
        x.valley();
        Check.same("said(NONE) of a new valley", x.said(Check.NONE), Check.NONE);
    }
}
