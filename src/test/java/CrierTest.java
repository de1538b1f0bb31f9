/** Promises 36 and 37: what the crier says. */
public final class CrierTest {
    public static void main(String[] args) {
        ClogVotes x = Check.valley("street s;hand a s 20 0 child;hand b s 20 0 child;hand c s 20 0 child;hand d s 3 0;"
                + "question bread;question abcdefgh;question z;wants a bread left;wants b bread left;wants c bread left;"
                + "wants d bread right;wants d abcdefgh right;echo left 99;");
        Check.same("byteAt(0) ahead of any", x.byteAt(0), Check.NONE);
        Check.same("crier(3)", x.crier(3), Check.NONE);
        Check.same("crier(-1)", x.crier(-1), Check.NONE);
        Check.same("byteAt(0) ahead of any", x.byteAt(0), Check.NONE);
        Check.same("crier(0)", x.crier(0), 13);
        Check.sameText("crier(0)", Check.cry(x, 0), "bread is open");
        x.put(0);
        Check.same("byteAt(6), as it was cried", x.byteAt(6), 'i');
        Check.sameText("crier(0)", Check.cry(x, 0), "bread carried by 216");
        x.days(1);
        x.put(1);
        Check.sameText("crier(1)", Check.cry(x, 1), "abcdefgh lost by 3");
        x.days(1);
        x.put(2);
        Check.sameText("crier(2)", Check.cry(x, 2), "z lost by 0");
        Check.same("crier(7)", x.crier(7), Check.NONE);
        Check.same("byteAt(0) stays", x.byteAt(0), 'z');
        Check.same("byteAt(10)", x.byteAt(10), '0');
        Check.same("byteAt(11)", x.byteAt(11), Check.NONE);
        Check.same("byteAt(-1)", x.byteAt(-1), Check.NONE);
        Check.same("byteAt of the greatest", x.byteAt(Integer.MAX_VALUE), Check.NONE);
        x.valley();
        Check.same("byteAt(0) stays with a new valley", x.byteAt(0), 'z');
        Check.same("crier(0) of no question", x.crier(0), Check.NONE);
        Check.finish("CrierTest");
    }
}
