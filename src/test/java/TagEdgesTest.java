import java.math.BigInteger;
import java.util.Arrays;
import java.util.function.UnaryOperator;

/** Tags whose number H comes out next to 0, next to the modulus, or where a carry begins. */
public final class TagEdgesTest extends Tests {
    public static void main(String[] args) throws IllegalAccessException {
        new TagEdgesTest().runAll();
    }

    /** From the modulus less 8 over the modulus, which counts 0, to 8. */
    void hashNextToZeroAndToTheModulus() {
        for (int near = -8; near <= 8; near++) {
            hashIs(BigInteger.valueOf(near));
        }
    }

    /** From 2 to the 128 on, H has more than the tag's 16 bytes. */
    void hashNextToSixteenBytes() {
        for (int near = -8; near <= 8; near++) {
            hashIs(TagRow.TWO_128.add(BigInteger.valueOf(near)));
            hashIs(TagRow.TWO_128.shiftLeft(1).add(BigInteger.valueOf(near)));
        }
    }

    void hashOfOneBit() {
        for (int bit = 0; bit < 130; bit++) {
            hashIs(BigInteger.ONE.shiftLeft(bit));
        }
    }

    void hashOneBitBelowTheModulus() {
        for (int bit = 0; bit < 130; bit++) {
            hashIs(BigInteger.ONE.shiftLeft(bit).negate());
        }
    }

    /** What goes over the 16 bytes when S is added is left out: at 2 to the 128 the tag is 0. */
    void sumOfHAndSNextToGoingOver() {
        for (int near = -2; near <= 2; near++) {
            BigInteger sum = TagRow.TWO_128.add(BigInteger.valueOf(near));
            dueSolved("H and S are " + sum, addend -> sum.subtract(addend));
        }
    }

    private void hashIs(BigInteger hash) {
        dueSolved("H is " + hash, addend -> hash);
    }

    private void dueSolved(String aim, UnaryOperator<BigInteger> wanted) {
        TagRow row = TagRow.solve(wanted);
        byte[] due = Oracle.tagOf(new int[8], row.nonce, row.added, Boxes.NO_ROW);
        due("the solving is right where " + aim, Arrays.equals(due, row.tag), true);
        AeadBox sealing = row.begun(Boxes.TO_SEAL);
        sealing.finish();
        due("finish() again where " + aim, sealing.finish(), false);
        dueTag(sealing, row.tag);
        AeadBox opening = row.begun(Boxes.TO_OPEN);
        opening.finish();
        Boxes.expect(opening, row.tag);
        due("verify() where " + aim, opening.verify(), true);
    }
}
