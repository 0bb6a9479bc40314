import java.math.BigInteger;

/** A fraction of any size by the Java library, to hold the program's against. */
final class Ratio {
    static final Ratio ZERO = of(0, 1);

    final BigInteger numerator;
    final BigInteger denominator;

    private Ratio(BigInteger numerator, BigInteger denominator) {
        BigInteger common = numerator.gcd(denominator);
        this.numerator = numerator.divide(common);
        this.denominator = denominator.divide(common);
    }

    static Ratio of(long num, long den) {
        return new Ratio(BigInteger.valueOf(num), BigInteger.valueOf(den));
    }

    Ratio plus(Ratio other) {
        return new Ratio(numerator.multiply(other.denominator).add(other.numerator.multiply(denominator)),
            denominator.multiply(other.denominator));
    }

    Ratio minus(Ratio other) {
        return plus(new Ratio(other.numerator.negate(), other.denominator));
    }

    boolean isMoreThan(Ratio other) {
        return minus(other).numerator.signum() > 0;
    }

    int limb(int part, int k) {
        BigInteger number = part == 0 ? numerator : denominator;
        int size = (number.bitLength() + 30) / 31;
        if (k == -1) {
            return size;
        }
        if (k < 0 || k >= size) {
            return -1;
        }
        return number.shiftRight(31 * k).and(BigInteger.valueOf(Integer.MAX_VALUE)).intValueExact();
    }

    /** Compares all limbs of one of the program's fractions, and those that are not there. */
    void isHeld(Check check, PrivateCounts x, int which, String when) {
        for (int part = 0; part <= 1; part++) {
            for (int k = -1; k <= limb(part, -1); k++) {
                check.due(when + ": limb(" + which + ", " + part + ", " + k + ")",
                    x.limb(which, part, k), limb(part, k));
            }
        }
    }
}
