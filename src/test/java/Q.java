import java.math.BigInteger;

/** A fraction of big numbers. */
final class Q {
    final BigInteger n;
    final BigInteger d;

    Q(BigInteger n, BigInteger d) {
        BigInteger g = n.gcd(d);
        if (d.signum() < 0) {
            g = g.negate();
        }
        this.n = n.divide(g);
        this.d = d.divide(g);
    }

    static Q of(long v) {
        return new Q(BigInteger.valueOf(v), BigInteger.ONE);
    }

    Q plus(Q o) {
        return new Q(n.multiply(o.d).add(o.n.multiply(d)), d.multiply(o.d));
    }

    Q minus(Q o) {
        return plus(new Q(o.n.negate(), o.d));
    }

    Q times(Q o) {
        return new Q(n.multiply(o.n), d.multiply(o.d));
    }

    Q by(Q o) {
        return new Q(n.multiply(o.d), d.multiply(o.n));
    }

    int compare(Q o) {
        return minus(o).n.signum();
    }

    boolean isZero() {
        return n.signum() == 0;
    }

    long tell(boolean below) {
        return (below ? d : n).longValueExact();
    }
}
