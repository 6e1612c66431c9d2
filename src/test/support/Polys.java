import java.math.BigInteger;

/** Polynomials in x as rows of coefficients, the highest power's first. */
final class Polys {
  private Polys() {}

  /** As the document has them WRITTEN. */
  static String written(BigInteger[] c) {
    StringBuilder text = new StringBuilder();
    for (int i = 0; i < c.length; i++) {
      int power = c.length - 1 - i;
      if (c[i].signum() == 0) {
        continue;
      }
      text.append(c[i].signum() < 0 ? "-" : text.length() > 0 ? "+" : "");
      text.append(c[i].abs().equals(BigInteger.ONE) && power > 0 ? "" : c[i].abs().toString());
      text.append(power > 1 ? "x" + power : power > 0 ? "x" : "");
    }
    return text.length() == 0 ? "0" : text.toString();
  }

  static BigInteger[] product(BigInteger[] a, BigInteger[] b) {
    BigInteger[] c = filled(a.length + b.length - 1, 0);
    for (int i = 0; i < a.length; i++) {
      for (int j = 0; j < b.length; j++) {
        c[i + j] = c[i + j].add(a[i].multiply(b[j]));
      }
    }
    return c;
  }

  /** p with q in the place of x. */
  static BigInteger[] chain(BigInteger[] p, BigInteger[] q) {
    BigInteger[] c = {BigInteger.ZERO};
    for (BigInteger coefficient : p) {
      c = product(c, q);
      c[c.length - 1] = c[c.length - 1].add(coefficient);
    }
    return c;
  }

  static BigInteger[] filled(int size, long v) {
    BigInteger[] c = new BigInteger[size];
    java.util.Arrays.fill(c, BigInteger.valueOf(v));
    return c;
  }
}
