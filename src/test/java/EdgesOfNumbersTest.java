import java.math.BigInteger;

/** The edges of Part VI and of the promises 17 to 24. */
public final class EdgesOfNumbersTest {
  private static final BigInteger TEN = BigInteger.TEN;
  private static final BigInteger ONE = BigInteger.ONE;
  private static final BigInteger TWO = BigInteger.TWO;

  public static void main(String[] args) {
    hasNoFactorsInDegree0();
    splitsIntoIrreducibles();
    ordersByDegree();
    ordersByCoefficients();
    tellsHowOftenAFactorDivides();
    losesEarlierFactors();
    refusesFactorsThatAreNot();
    keepsNumbers0To7();
    refusesNumbersThatAreNot();
    keepsNumbersApart();
    reckonsFourThings();
    refusesQuotientsByZero();
    takesProductsOfDegreesTo8();
    takes60Digits();
    takes60DigitsInDegree2();
    takes60DigitsOfTheLeastAlone();
    takesTheSameNumbers();
    tellsDegrees();
    comparesTheSame();
    comparesTheNearest();
    roundsNothing();
    roundsNoFractions();
    House.end();
  }

  private static void split(String text, String... want) {
    House h = new House();
    int count = h.factors(text);
    StringBuilder told = new StringBuilder();
    StringBuilder due = new StringBuilder();
    for (int i = 0; i < count; i++) {
      told.append(h.written("factor " + i)).append('^').append(h.x.power(i)).append(' ');
    }
    for (String one : want) {
      due.append(one).append(' ');
    }
    House.due("the factors of " + text, due.toString(), told.toString());
    House.due("one more", -1, h.x.factor(count));
    House.due("one more", -1, h.x.power(count));
  }

  /** "its degree is 1 or more". */
  private static void hasNoFactorsInDegree0() {
    split("1");
    split("-1");
    split("6");
    split("-999999");
    split("x-x+4");
    split("x", "x^1");
    split("6x", "x^1");
  }

  /** "PRIMITIVE, .. and it is no product of two polynomials of lower degree". */
  private static void splitsIntoIrreducibles() {
    split("-4x-6", "2x+3^1");
    split("2x2+2", "x2+1^1");
    split("x2-2", "x2-2^1");
    split("x2-4", "x-2^1", "x+2^1");
    split("4x2-1", "2x-1^1", "2x+1^1");
    split("x4+1", "x4+1^1");
    split("x4+4", "x2-2x+2^1", "x2+2x+2^1");
    split("x8+1", "x8+1^1");
    split("x8-x4-2", "x4-2^1", "x4+1^1");
    split("x8-16", "x2-2x+2^1", "x2-2^1", "x2+2^1", "x2+2x+2^1");
    split("x8+x+1", "x2+x+1^1", "x6-x5+x3-x2+1^1");
    split("999999x8+999999", "x8+1^1");
  }

  /** "by their degree". */
  private static void ordersByDegree() {
    split("x3-x2+x-1", "x-1^1", "x2+1^1");
    split("9x3+9x2-x-1", "x+1^1", "3x-1^1", "3x+1^1");
    split("x8-2x7+x6-4x2+8x-4", "x-1^2", "x3-2^1", "x3+2^1");
    split("x8-5x7+3x6-15x5+3x4-15x3+2x2-10x", "x-5^1", "x^1", "x2-x+1^1", "x2+2^1", "x2+x+1^1");
    // a great linear one comes ahead of a small quadratic one
    split("999999x3-x2+999999x-1", "999999x-1^1", "x2+1^1");
  }

  /** "then by their coefficients, from the highest power on (as numbers, the lesser first)". */
  private static void ordersByCoefficients() {
    split("36x8-72x7-49x6+98x5+14x4-28x3-x2+2x", "x-2^1", "x-1^1", "x^1", "x+1^1", "2x-1^1",
        "2x+1^1", "3x-1^1", "3x+1^1");
    split("2x8-2x7-3x6+x5-4x4+5x3+3x2+2x+2", "x2-x-1^1", "x2-2^1", "x2+1^1", "2x2+1^1");
    split("x8-x7-x6+x5-2x4+x3+x2+1", "x4-x3-1^1", "x4-x2-1^1");
    split("x2-100", "x-10^1", "x+10^1");
    split("x2-7x-18", "x-9^1", "x+2^1");
    split("x2-19x+90", "x-10^1", "x-9^1");
  }

  /** "each once", "each with how often it divides it". */
  private static void tellsHowOftenAFactorDivides() {
    split("x8", "x^8");
    split("3x8-24x7+84x6-168x5+210x4-168x3+84x2-24x+3", "x-1^8");
    split("x8+6x7-18x6-162x5+1458x3+1458x2-4374x-6561", "x-3^3", "x+3^5");
    split("432x7-1728x6+1224x5+2504x4-2469x3-1674x2+1188x+648", "2x-3^4", "3x+2^3");
    split("x8+4x6+6x4+4x2+1", "x2+1^4");
    split("x7-2x4+x", "x-1^2", "x^1", "x2+x+1^2");
  }

  /** "its FACTORS are those of the house now". */
  private static void losesEarlierFactors() {
    Furnished.standsBut("factors of a number", Furnished.answers("factors", "7", 0),
        Furnished.FACTORS, ";");
    Furnished.standsBut("factors of one", Furnished.answers("factors", "x2+1", 1),
        Furnished.FACTORS, " x2+1^1;");
  }

  /** A FACTOR "that there is not". */
  private static void refusesFactorsThatAreNot() {
    for (int i : new int[] {-1, 2, 3, Integer.MIN_VALUE, Integer.MAX_VALUE}) {
      Furnished.refused("factor " + i);
      Furnished.refused("power " + i);
    }
    Furnished.writes("factor 0", "x-1");
    Furnished.writes("factor 1", "x");
    House.due("power of the last", 3, Furnished.house().x.power(1));
  }

  /** "The house keeps NUMBERS 0 .. 7, none at first". */
  private static void keepsNumbers0To7() {
    House h = new House();
    h.roots("x-5");
    for (int j = 0; j < 8; j++) {
      House.due("least of none", -1, h.x.least(j));
      House.due("number of none", -1, h.x.number(j, 0));
      House.due("compare of none", -1, h.x.compare(j, j));
      House.due("hold in " + j, 1, h.x.hold(j, 0));
      h.wrote("least of " + j, "x-5", h.x.least(j));
      h.wrote("number of " + j, "5", h.x.number(j, 0));
      House.due("compare of " + j, 1, h.x.compare(j, 0));
    }
    for (int j = 0; j < 8; j++) {
      House.due("reckon in " + j, 1, h.x.reckon(j, 1, j, 7 - j));
    }
    for (int j : new int[] {-1, 8, 9, Integer.MIN_VALUE, Integer.MAX_VALUE}) {
      Furnished.refused("hold " + j + " 0");
      Furnished.refused("reckon " + j + " 0 0 0");
      Furnished.refused("reckon 1 0 " + j + " 0");
      Furnished.refused("reckon 1 0 0 " + j);
      Furnished.refused("least " + j);
      Furnished.refused("number " + j + " 0");
      Furnished.refused("compare " + j + " 0");
      Furnished.refused("compare 0 " + j);
      Furnished.refused("compare " + j + " " + j);
    }
  }

  /** A NUMBER "that there is not". */
  private static void refusesNumbersThatAreNot() {
    for (int j : new int[] {1, 4, 5, 6}) {
      Furnished.refused("least " + j);
      Furnished.refused("number " + j + " 0");
      Furnished.refused("compare " + j + " 0");
      Furnished.refused("compare 7 " + j);
      Furnished.refused("compare " + j + " " + j);
      for (int what = 0; what < 4; what++) {
        Furnished.refused("reckon 0 " + what + " " + j + " 7");
        Furnished.refused("reckon 0 " + what + " 7 " + j);
        Furnished.refused("reckon " + j + " " + what + " " + j + " " + j);
      }
    }
  }

  /** What a NUMBER is does not hang on the roots that the house has later. */
  private static void keepsNumbersApart() {
    House h = Furnished.answers("roots", "x2-3", 2);
    Furnished.standsBut("other roots", h, Furnished.ROOTS, " 1*-111 1*110;");
    h = Furnished.house();
    House.due("hold in 7", 1, h.x.hold(7, 1));
    Furnished.standsBut("hold in 7", h, " 3x+1:-6", " x+1:-16");
    h = Furnished.house();
    House.due("hold in 0", 2, h.x.hold(0, 0));
    Furnished.standsBut("hold in 0", h, " x2-2:22", " x2-2:-23");
    h = Furnished.house();
    House.due("reckon in 2", 1, h.x.reckon(2, 2, 0, 0));
    Furnished.standsBut("reckon in 2", h, " x3-2:20", " x-2:32");
  }

  /** A what "that is not as said", and the four that are. */
  private static void reckonsFourThings() {
    String[] least = {"9x2+6x-17", "9x2-6x-17", "9x2-2", "x2-18"};
    for (int what = 0; what < 4; what++) {
      House h = Furnished.house();
      House.due("reckon " + what, 2, h.x.reckon(1, what, 0, 7));
      h.wrote("reckon " + what, least[what], h.x.least(1));
    }
    for (int what : new int[] {-1, 4, 5, Integer.MIN_VALUE, Integer.MAX_VALUE}) {
      Furnished.refused("reckon 1 " + what + " 0 7");
      Furnished.refused("reckon 0 " + what + " 0 0");
    }
    // the order of a and b
    House h = Furnished.house();
    h.x.reckon(1, 1, 7, 0);
    h.wrote("-1/3 less the root of 2", "-28", h.x.number(1, 4));
    h.x.reckon(1, 3, 7, 0);
    h.wrote("-1/3 by the root of 2", "18x2-1", h.x.least(1));
  }

  /** "quotient (3; refused if b is 0)". */
  private static void refusesQuotientsByZero() {
    for (int a : new int[] {0, 2, 3, 7}) {
      Furnished.refused("reckon 1 3 " + a + " 3");
      Furnished.refused("reckon 3 3 " + a + " 3");
      Furnished.refused("reckon " + a + " 3 " + a + " 3");
    }
    House h = Furnished.house();
    House.due("0 by the root of 2", 1, h.x.reckon(1, 3, 3, 0));
    h.wrote("0 by the root of 2", "x", h.x.least(1));
    House.due("the root of 2 times 0", 1, h.x.reckon(1, 2, 0, 3));
    h.wrote("the root of 2 times 0", "x", h.x.least(1));
    House.due("the root of 2 and 0", 2, h.x.reckon(1, 0, 0, 3));
    h.wrote("the root of 2 and 0", "x2-2", h.x.least(1));
    House.due("0 less the root of 2", 2, h.x.reckon(1, 1, 3, 0));
    h.wrote("0 less the root of 2", "-2", h.x.number(1, 0));
    // a 0 that was reckoned
    House.due("the root of 2 less itself", 1, h.x.reckon(4, 1, 0, 0));
    House.due("by it", -1, h.x.reckon(5, 3, 0, 4));
    House.due("by it", -1, h.x.least(5));
    House.due("itself by it", -1, h.x.reckon(4, 3, 4, 4));
    h.wrote("it is 0 still", "x", h.x.least(4));
  }

  private static void hold(House h, int j, String text) {
    House.due("there are roots of " + text, 1, h.roots(text) > 0 ? 1 : 0);
    h.x.hold(j, 0);
  }

  /** "if the degrees of those of a and b have a product above 8". */
  private static void takesProductsOfDegreesTo8() {
    String[] texts = {"", "2x-3", "x2-3", "x3-3", "x4-3", "x5-3", "x6-3", "x7-3", "x8-3"};
    for (int m = 1; m <= 8; m++) {
      for (int n = 1; n <= 8; n++) {
        for (int what = 0; what < 4; what++) {
          House h = new House();
          hold(h, 0, texts[m]);
          hold(h, 7, texts[n]);
          int degree = h.x.reckon(4, what, 0, 7);
          String which = "degrees " + m + " and " + n + ", " + what;
          if (m * n > 8) {
            House.due(which, -1, degree);
            House.due("nothing came of " + which, -1, h.x.least(4));
          } else {
            House.due(which, 1, degree >= 1 && degree <= m * n ? 1 : degree);
            House.due("something came of " + which, 1, h.x.least(4) > 0 ? 1 : 0);
          }
        }
      }
    }
    House h = new House();
    hold(h, 0, "x4-3");
    hold(h, 1, "x2-2");
    House.due("of degree 8", 8, h.x.reckon(2, 0, 0, 1));
    House.due("of degrees 8 and 2", -1, h.x.reckon(2, 0, 2, 1));
    House.due("of degrees 2 and 8", -1, h.x.reckon(2, 0, 1, 2));
    House.due("of degrees 8 and 8", -1, h.x.reckon(2, 1, 2, 2));
    House.due("of degrees 4 and 4", -1, h.x.reckon(2, 1, 0, 0));
    hold(h, 3, "x-1");
    House.due("it stays", 8, h.x.reckon(2, 2, 2, 3));
    House.due("of degrees 1 and 8", 8, h.x.reckon(2, 2, 3, 2));
  }

  /** Makes NUMBER j a whole number, however great; 5 and 6 are overwritten. */
  private static void build(House h, int j, BigInteger v) {
    hold(h, 6, "x-999999-1");
    String digits = v.abs().toString();
    String sign = v.signum() < 0 ? "x+" : "x-";
    int size = (digits.length() + 5) % 6 + 1;
    hold(h, j, sign + digits.substring(0, size));
    for (int i = size; i < digits.length(); i += 6) {
      h.x.reckon(j, 2, j, 6);
      hold(h, 5, sign + digits.substring(i, i + 6));
      h.x.reckon(j, 0, j, 5);
    }
    h.wrote("what was built", (v.signum() < 0 ? "x+" : "x-") + v.abs(), h.x.least(j));
  }

  /** "or a coefficient of the new one would have more than 60 digits". */
  private static void takes60Digits() {
    BigInteger most = TEN.pow(60).subtract(ONE);
    House h = new House();
    build(h, 0, most);
    hold(h, 1, "x-1");
    House.due("1 more, with 61 digits", -1, h.x.reckon(2, 0, 0, 1));
    House.due("nothing came of it", -1, h.x.least(2));
    House.due("1 less", 1, h.x.reckon(2, 1, 0, 1));
    h.wrote("1 less", "x-" + most.subtract(ONE), h.x.least(2));
    House.due("and 1 more again", 1, h.x.reckon(2, 0, 2, 1));
    House.due("and once more", -1, h.x.reckon(2, 0, 2, 1));
    h.wrote("it stays", "x-" + most, h.x.least(2));
    House.due("as a divisor", 1, h.x.reckon(3, 3, 1, 0));
    h.wrote("as a divisor", most + "x-1", h.x.least(3));
    House.due("half of that, with 61 digits", -1, h.x.reckon(3, 1, 3, 0));
    h.wrote("it stays", most + "x-1", h.x.least(3));
    h = new House();
    build(h, 0, most.negate());
    hold(h, 1, "x-1");
    House.due("1 less, with 61 digits below 0", -1, h.x.reckon(0, 1, 0, 1));
    h.wrote("it stays", "x+" + most, h.x.least(0));
    House.due("1 more", 1, h.x.reckon(0, 0, 0, 1));
    h.wrote("1 more", "x+" + most.subtract(ONE), h.x.least(0));
  }

  /** The same, where the coefficient is not the number itself. */
  private static void takes60DigitsInDegree2() {
    // x^2 - 2 v x + v^2 - 2, with v 10^30 and 1 more; v^2 x^2 - 2, with 1 less and 1 more
    BigInteger v = TEN.pow(30);
    BigInteger less = v.subtract(ONE);
    House h = new House();
    build(h, 0, v);
    hold(h, 1, "x2-2");
    hold(h, 2, "x-1");
    House.due("60 digits at x0", 2, h.x.reckon(3, 0, 0, 1));
    String sum = "x2-2" + "0".repeat(30) + "x+" + v.pow(2).subtract(BigInteger.TWO);
    h.wrote("60 digits at x0", sum, h.x.least(3));
    House.due("1 more", 1, h.x.reckon(4, 0, 0, 2));
    House.due("61 digits at x0", -1, h.x.reckon(3, 0, 4, 1));
    House.due("61 digits at x0", -1, h.x.reckon(3, 1, 4, 1));
    House.due("61 digits at x2", -1, h.x.reckon(3, 3, 1, 4));
    h.wrote("it stays", sum, h.x.least(3));
    House.due("1 less", 1, h.x.reckon(4, 1, 0, 2));
    House.due("60 digits at x2", 2, h.x.reckon(3, 3, 1, 4));
    h.wrote("60 digits at x2", less.pow(2) + "x2-2", h.x.least(3));
    // x^2 - 2 v^2, with the greatest v and the next one
    v = TEN.pow(60).divide(BigInteger.TWO).sqrt();
    h = new House();
    build(h, 0, v);
    hold(h, 1, "x2-2");
    hold(h, 2, "x-1");
    House.due("60 digits", 2, h.x.reckon(3, 2, 0, 1));
    h.wrote("60 digits", "x2-" + v.pow(2).shiftLeft(1), h.x.least(3));
    House.due("1 more", 1, h.x.reckon(0, 0, 0, 2));
    House.due("61 digits", -1, h.x.reckon(3, 2, 0, 1));
    h.wrote("it stays", "x2-" + v.pow(2).shiftLeft(1), h.x.least(3));
  }

  /** It is "the new one" that counts, not what was on the way to it. */
  private static void takes60DigitsOfTheLeastAlone() {
    BigInteger most = TEN.pow(60).subtract(ONE);
    House h = new House();
    build(h, 0, most);
    House.due("itself by itself", 1, h.x.reckon(1, 3, 0, 0));
    h.wrote("itself by itself", "x-1", h.x.least(1));
    House.due("itself less itself", 1, h.x.reckon(1, 1, 0, 0));
    h.wrote("itself less itself", "x", h.x.least(1));
    House.due("itself times itself", -1, h.x.reckon(1, 2, 0, 0));
    House.due("itself and itself", -1, h.x.reckon(1, 0, 0, 0));
    h.wrote("it stays", "x", h.x.least(1));
  }

  /** Reckons with the NUMBERS 0 and 2 or 7: which NUMBER j is then. */
  private static String reckoned(int j, int what, int a, int b) {
    House h = Furnished.house();
    h.x.hold(2, 1);
    House.due("reckon answers", 1, h.x.reckon(j, what, a, b) > 0 ? 1 : 0);
    return h.written("least " + j) + " " + h.written("number " + j + " 100");
  }

  /** "NUMBER j .. becomes", also if it is a or b or both. */
  private static void takesTheSameNumbers() {
    String[] twice = {"x2-8", "x", "x-2", "x-1"};
    for (int what = 0; what < 4; what++) {
      for (int b : new int[] {0, 2, 7}) {
        String apart = reckoned(5, what, 0, b);
        House.due("j is a, " + what, apart, reckoned(0, what, 0, b));
        House.due("j is b, " + what, apart, reckoned(b, what, 0, b));
        apart = reckoned(5, what, b, 0);
        House.due("j is a, " + what, apart, reckoned(b, what, b, 0));
        House.due("j is b, " + what, apart, reckoned(0, what, b, 0));
      }
      House h = Furnished.house();
      h.x.reckon(0, what, 0, 0);
      h.wrote("j is a and b, " + what, twice[what], h.x.least(0));
    }
    // what is not j stays
    House h = Furnished.house();
    h.x.reckon(7, 0, 0, 7);
    Furnished.standsBut("j is b", h, " 3x+1:-6", " 9x2+6x-17:17");
    h = Furnished.house();
    h.x.reckon(0, 0, 0, 7);
    Furnished.standsBut("j is a", h, " x2-2:22", " 9x2+6x-17:17");
  }

  /** "the degree of its LEAST polynomial". */
  private static void tellsDegrees() {
    House h = new House();
    h.roots("x4-5x2+6");
    for (int i = 0; i < 4; i++) {
      House.due("of a root of x4-5x2+6", 2, h.x.hold(0, i));
    }
    h.roots("x8-2");
    House.due("of a root of x8-2", 8, h.x.hold(0, 0));
    h.roots("x8-4x4+4");
    House.due("of a double root", 4, h.x.hold(1, 1));
    h.wrote("its polynomial", "x4-2", h.x.least(1));
    h.roots("6x-3");
    House.due("of a fraction", 1, h.x.hold(2, 0));
    h.wrote("its polynomial", "2x-1", h.x.least(2));
    h.roots("x");
    House.due("of 0", 1, h.x.hold(3, 0));
    h.roots("x3-2x");
    House.due("of 0 among others", 1, h.x.hold(3, 1));
    h.wrote("its polynomial", "x", h.x.least(3));
  }

  /** "NUMBER a is less than NUMBER b: 0; the same: 1; greater: 2." */
  private static void comparesTheSame() {
    House h = Furnished.house();
    House.due("less", 0, h.x.compare(7, 3));
    House.due("the same", 1, h.x.compare(7, 7));
    House.due("greater", 2, h.x.compare(3, 7));
    Furnished.stands("compare", h);
    h.x.hold(1, 2);
    House.due("the same from another polynomial", 1, h.x.compare(0, 1));
    h.x.hold(1, 0);
    House.due("its conjugate", 2, h.x.compare(0, 1));
    House.due("its conjugate", 0, h.x.compare(1, 0));
    hold(h, 1, "470832x-665857");
    House.due("a fraction just above", 0, h.x.compare(0, 1));
    hold(h, 1, "195025x-275807");
    House.due("a fraction just below", 2, h.x.compare(0, 1));
  }

  /** Fractions of up to 49 digits on both sides of the root of 2: nearer than 2^-200 can tell. */
  private static void comparesTheNearest() {
    House h = new House();
    h.roots("x2-2");
    h.x.hold(0, 1);
    hold(h, 1, "2x-3");
    hold(h, 2, "x-2");
    BigInteger p = BigInteger.valueOf(3);
    BigInteger q = TWO;
    for (int i = 0; i < 6; i++) {
      h.x.reckon(3, 3, 2, 1);
      House.due("just below, " + i, 2, h.x.compare(0, 3));
      House.due("just above, " + i, 0, h.x.compare(0, 1));
      h.x.reckon(1, 0, 1, 3);
      h.x.reckon(1, 3, 1, 2);
      BigInteger next = p.pow(2).add(q.pow(2).shiftLeft(1));
      q = p.multiply(q).shiftLeft(1);
      p = next;
    }
    h.x.reckon(3, 3, 2, 1);
    h.wrote("the last one", q + "x-" + p, h.x.least(1));
    House.due("just below, at last", 2, h.x.compare(0, 3));
    House.due("just above, at last", 0, h.x.compare(0, 1));
    House.due("both of them", 0, h.x.compare(3, 1));
    String all = TWO.shiftLeft(400).sqrt().toString();
    h.wrote("the root of 2", all, h.x.number(0, 200));
    h.wrote("the one just above", all, h.x.number(1, 200));
    h.wrote("the one just below", all, h.x.number(3, 200));
    House.due("their difference would be too long", -1, h.x.reckon(4, 1, 1, 0));
  }

  /** The greatest whole number that is at most 2^k (whole + sign (a - b times the root of 2)). */
  private static String told(int whole, int sign, BigInteger a, BigInteger b, int k) {
    BigInteger root = b.pow(2).shiftLeft(2 * k + 1).sqrt();
    BigInteger part = a.shiftLeft(k).subtract(root).subtract(ONE);
    part = sign > 0 ? part : part.negate().subtract(ONE);
    return BigInteger.valueOf(whole).shiftLeft(k).add(part).toString();
  }

  /** "nothing is ever rounded": (root of 2 - 1)^156, some 2^-198, and whole numbers beside it. */
  private static void roundsNothing() {
    BigInteger a = ONE;
    BigInteger b = BigInteger.ZERO;
    for (int i = 0; i < 156; i++) {
      BigInteger next = a.add(b.shiftLeft(1));
      b = a.add(b);
      a = next;
    }
    for (int whole = -1; whole <= 1; whole++) {
      for (int sign = -1; sign <= 1; sign += 2) {
        House h = new House();
        h.roots("x2+2x-1");
        h.x.hold(0, 1);
        hold(h, 1, "x-1");
        hold(h, 2, whole == 0 ? "x" : whole > 0 ? "x-1" : "x+1");
        // 156 is 128 and 16 and 8 and 4
        for (int i = 1; i <= 7; i++) {
          h.x.reckon(0, 2, 0, 0);
          if (i >= 2 && i != 5 && i != 6) {
            h.x.reckon(1, 2, 1, 0);
          }
        }
        h.wrote("the power", "x2-" + a.shiftLeft(1) + "x+1", h.x.least(1));
        House.due("degree", 2, h.x.reckon(3, sign > 0 ? 0 : 1, 2, 1));
        for (int k : new int[] {0, 1, 197, 198, 199, 200}) {
          h.wrote(whole + " and " + sign + " at " + k, told(whole, sign, a, b, k),
              h.x.number(3, k));
        }
        House.due("beside the whole number", sign + 1, h.x.compare(3, 2));
      }
    }
  }

  /** The same of a fraction, 1/(10^60-1). */
  private static void roundsNoFractions() {
    BigInteger most = TEN.pow(60).subtract(ONE);
    House h = new House();
    build(h, 0, most);
    hold(h, 1, "x-1");
    hold(h, 3, "x");
    h.x.reckon(2, 3, 1, 0);
    House.due("just above 0", 2, h.x.compare(2, 3));
    h.wrote("just above 0 at 199", "0", h.x.number(2, 199));
    h.wrote("just above 0 at 200", "1", h.x.number(2, 200));
    h.x.reckon(2, 1, 3, 2);
    House.due("just below 0", 0, h.x.compare(2, 3));
    h.wrote("just below 0 at 0", "-1", h.x.number(2, 0));
    h.wrote("just below 0 at 199", "-1", h.x.number(2, 199));
    h.wrote("just below 0 at 200", "-2", h.x.number(2, 200));
    h.x.reckon(2, 0, 2, 1);
    House.due("just below 1", 0, h.x.compare(2, 1));
    h.wrote("just below 1 at 0", "0", h.x.number(2, 0));
    h.wrote("just below 1 at 199", ONE.shiftLeft(199).subtract(ONE).toString(),
        h.x.number(2, 199));
  }
}
