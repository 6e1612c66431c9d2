import java.math.BigInteger;
import java.util.Random;

/**
 * Promise 21, with 22 to 24: numbers of one quadratic field, as great as they may be, are reckoned
 * with. What is due is reckoned apart, on (a + b times the root of d) / e.
 */
public final class OneFieldTest {
  private static final BigInteger ONE = BigInteger.ONE;
  private static final BigInteger TWO = BigInteger.TWO;
  private static final BigInteger MILLION = BigInteger.valueOf(1000000);

  /** A number of the field: e is above 0, and nothing divides all three. */
  private record Element(BigInteger a, BigInteger b, BigInteger e) {
    static Element of(BigInteger a, BigInteger b, BigInteger e) {
      BigInteger all = a.gcd(b).gcd(e);
      all = e.signum() < 0 ? all.negate() : all;
      return new Element(a.divide(all), b.divide(all), e.divide(all));
    }

    Element plus(Element v, int sign) {
      BigInteger s = BigInteger.valueOf(sign).multiply(e);
      return of(a.multiply(v.e).add(v.a.multiply(s)), b.multiply(v.e).add(v.b.multiply(s)),
          e.multiply(v.e));
    }

    Element times(Element v, BigInteger d) {
      return of(a.multiply(v.a).add(b.multiply(v.b).multiply(d)),
          a.multiply(v.b).add(b.multiply(v.a)), e.multiply(v.e));
    }

    /** a a - d b b. */
    BigInteger norm(BigInteger d) {
      return a.multiply(a).subtract(b.multiply(b).multiply(d));
    }

    Element by(Element v, BigInteger d) {
      return times(of(v.a.multiply(v.e), v.b.multiply(v.e).negate(), v.norm(d)), d);
    }

    int sign(BigInteger d) {
      int apart = a.multiply(a).compareTo(b.multiply(b).multiply(d));
      return apart > 0 ? a.signum() : b.signum() != 0 ? b.signum() : a.signum();
    }

    String told(int k, BigInteger d) {
      BigInteger root = b.multiply(b).multiply(d).shiftLeft(2 * k).sqrt();
      root = b.signum() < 0 ? root.negate().subtract(ONE) : root;
      BigInteger[] parts = a.shiftLeft(k).add(root).divideAndRemainder(e);
      return parts[1].signum() < 0 ? parts[0].subtract(ONE).toString() : parts[0].toString();
    }

    /** Its least polynomial's coefficients, the highest first. */
    BigInteger[] least(BigInteger d) {
      if (b.signum() == 0) {
        return new BigInteger[] {e, a.negate()};
      }
      BigInteger[] c = {e.multiply(e), TWO.multiply(a).multiply(e).negate(), norm(d)};
      BigInteger all = c[0].gcd(c[1]).gcd(c[2]);
      return new BigInteger[] {c[0].divide(all), c[1].divide(all), c[2].divide(all)};
    }
  }

  private final House h = new House();
  private final BigInteger d;
  private final Element[] kept = new Element[8];

  private OneFieldTest(int d) {
    this.d = BigInteger.valueOf(d);
  }

  public static void main(String[] args) {
    oneField();
    unfitPrimes();
    tiny();
    for (int seed = 0; seed < 400; seed++) {
      wander(seed);
    }
    House.end();
  }

  private void hold(int j, String text, int root, Element v) {
    h.roots(text);
    House.due("hold " + text, v.b.signum() == 0 ? 1 : 2, h.x.hold(j, root));
    kept[j] = v;
  }

  private void holdWhole(int j, BigInteger v) {
    hold(j, "x" + (v.signum() > 0 ? "-" : "+") + v.abs(), 0, Element.of(v, BigInteger.ZERO, ONE));
  }

  /** Makes number j a great one, six digits a time; 0 has a million, 1 is overwritten. */
  private void build(int j, BigInteger v) {
    String digits = v.abs().toString();
    int size = (digits.length() + 5) % 6 + 1;
    BigInteger sign = BigInteger.valueOf(v.signum() < 0 ? -1 : 1);
    holdWhole(j, new BigInteger(digits.substring(0, size)).multiply(sign));
    for (int i = size; i < digits.length(); i += 6) {
      reckon(j, 2, j, 0);
      holdWhole(1, new BigInteger(digits.substring(i, i + 6)).multiply(sign));
      reckon(j, 0, j, 1);
    }
  }

  /** Makes number j a + b times the root, which number 2 has; 3 is overwritten, too. */
  private void build(int j, String a, String b) {
    build(j, new BigInteger(b));
    reckon(j, 2, j, 2);
    build(3, new BigInteger(a));
    reckon(j, 0, j, 3);
  }

  private void begin() {
    hold(0, "x-999999-1", 0, Element.of(MILLION, BigInteger.ZERO, ONE));
    hold(2, "x2-" + d, 1, Element.of(BigInteger.ZERO, ONE, ONE));
  }

  private int reckon(int j, int what, int a, int b) {
    Element v = kept[a];
    Element w = kept[b];
    int want = -1;
    if (what < 3 || w.a.signum() != 0 || w.b.signum() != 0) {
      Element to = what == 0 ? v.plus(w, 1) : what == 1 ? v.plus(w, -1)
          : what == 2 ? v.times(w, d) : v.by(w, d);
      BigInteger[] least = to.least(d);
      want = least.length - 1;
      for (BigInteger c : least) {
        want = c.abs().toString().length() > 60 ? -1 : want;
      }
      kept[j] = want < 0 ? kept[j] : to;
    }
    House.due("reckon " + what + " of " + v + " and " + w, want, h.x.reckon(j, what, a, b));
    return want;
  }

  private void check(int j, int k) {
    h.wrote("least of " + kept[j], Polys.written(kept[j].least(d)), h.x.least(j));
    h.wrote(k + " of " + kept[j], kept[j].told(k, d), h.x.number(j, k));
  }

  /** Makes the numbers 4 and 5 quotients by 6. */
  private void quotients(String[] four, String[] five, String[] six) {
    begin();
    build(6, six[0], six[1]);
    build(4, four[0], four[1]);
    build(5, five[0], five[1]);
    reckon(4, 3, 4, 6);
    reckon(5, 3, 5, 6);
  }

  /** Quotients by one number whose norm has 54 digits: sums keep that denominator. */
  private static void oneField() {
    String[] four = {"777777777777777777777777", "31415926535897932384626433"};
    String[] five = {"-27182818284590452353602874", "161803398874989484820458683"};
    String[] six = {"123456789012345678901234567", "-98765432109876543210987654"};
    for (int what = 0; what < 4; what++) {
      OneFieldTest t = new OneFieldTest(2);
      t.quotients(four, five, six);
      if (t.reckon(7, what, 4, 5) > 0) {
        t.check(7, 100);
      }
      House.due("order", 1 + t.kept[4].plus(t.kept[5], -1).sign(t.d), t.h.x.compare(4, 5));
    }
  }

  /**
   * The polynomial of all sums, of degree 4, has a highest coefficient that six of the 18 greatest
   * primes below 2^30 divide, and a discriminant that the other twelve divide.
   */
  private static void unfitPrimes() {
    String[] four = {"327103419868755892876297103", "1577444178114735005056169224"};
    String[] five = {"-1112515106004219670604188395", "-163714757189962652295232236"};
    String[] six = {"1283994590258009279909539769", "432580196224998744846263478"};
    int[] degree = {2, 2, -1, 2};
    for (int what = 0; what < 4; what++) {
      OneFieldTest t = new OneFieldTest(17);
      t.quotients(four, five, six);
      House.due("degree of what " + what, degree[what], t.reckon(7, what, 4, 5));
      if (degree[what] > 0) {
        t.check(7, what == 0 ? 20 : 77 * what - 77);
      }
    }
    OneFieldTest t = new OneFieldTest(17);
    t.quotients(four, five, six);
    t.reckon(7, 0, 4, 5);
    t.h.wrote("the sum", "1532493537011159972588679040159536322168891655950586867x2"
        + "-22809674622878237612314388651538373820824705457292208072x"
        + "+33359853368282814535031396030362549452957037578041277184", t.h.x.least(7));
  }

  /** The powers of the root of 2 less 1, ever nearer to 0, until their polynomial is too long. */
  private static void tiny() {
    for (int last = 1; last <= 158; last++) {
      OneFieldTest t = new OneFieldTest(2);
      t.holdWhole(0, BigInteger.ZERO);
      t.hold(1, "x2+2x-1", 1, Element.of(ONE.negate(), ONE, ONE));
      t.holdWhole(2, ONE);
      for (int i = 1; i < last; i++) {
        t.reckon(2, 2, 2, 1);
      }
      t.reckon(3, 0, 2, 0);
      boolean goes = t.reckon(2, 2, 2, 1) > 0;
      House.due("power " + last + " has 60 digits at most", last < 157 ? 1 : 0, goes ? 1 : 0);
      t.check(2, 200);
      House.due("above 0", 2, t.h.x.compare(2, 0));
      House.due("below the one before", goes ? 0 : 1, t.h.x.compare(2, 3));
    }
  }

  /** Reckonings at random. */
  private static void wander(int seed) {
    Random random = new Random(seed);
    int[] roots = {2, 3, 5, 17, 110, 999983};
    OneFieldTest t = new OneFieldTest(roots[seed % roots.length]);
    t.begin();
    for (int j = 0; j < 8; j++) {
      if (t.kept[j] == null) {
        t.holdWhole(j, BigInteger.valueOf(1 + random.nextInt(999999)));
      }
    }
    // a check takes some 320 calls at most, a round eight
    boolean checks = random.nextInt(3) > 0;
    while (t.h.x.left() > (checks ? 328 : 8)) {
      int a = random.nextInt(8);
      int b = random.nextInt(8);
      int j = random.nextInt(8);
      t.reckon(j, random.nextInt(4), a, b);
      House.due("order", 1 + t.kept[a].plus(t.kept[b], -1).sign(t.d), t.h.x.compare(a, b));
      if (random.nextInt(8) == 0) {
        t.holdWhole(j, BigInteger.valueOf(1 + random.nextInt(999999)));
      } else if (random.nextInt(8) == 0) {
        t.hold(j, "x2-" + t.d, 1, Element.of(BigInteger.ZERO, ONE, ONE));
      }
    }
    if (checks) {
      t.check(random.nextInt(8), random.nextInt(201));
    }
  }
}
