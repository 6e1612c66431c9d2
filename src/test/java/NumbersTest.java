/** Promises 17 to 24: factors, factor, power, hold, reckon, least, number and compare. */
public final class NumbersTest {
  public static void main(String[] args) {
    splits();
    refusesToSplit();
    holds();
    reckonsRoots();
    reckonsFractions();
    reckonsZero();
    refusesToReckon();
    refusesLong();
    compares();
    staysQuick();
    House.end();
  }

  private static void split(String text, String... want) {
    House h = new House();
    House.due("factors of " + text, want.length / 2, h.factors(text));
    for (int i = 0; i < want.length / 2; i++) {
      h.wrote("factor " + i + " of " + text, want[2 * i], h.x.factor(i));
      House.due("its power", Integer.parseInt(want[2 * i + 1]), h.x.power(i));
    }
    House.due("no more", -1, h.x.factor(want.length / 2));
    House.due("no more", -1, h.x.power(want.length / 2));
  }

  private static void splits() {
    split("7");
    split("-x", "x", "1");
    split("4x2-4", "x-1", "1", "x+1", "1");
    split("x8", "x", "8");
    split("-6x3+12x2-6x", "x-1", "2", "x", "1");
    split("2x2-x-1", "x-1", "1", "2x+1", "1");
    split("x8-1", "x-1", "1", "x+1", "1", "x2+1", "1", "x4+1", "1");
    split("x4+1", "x4+1", "1");
    split("x4+4", "x2-2x+2", "1", "x2+2x+2", "1");
    split("x4-10x2+1", "x4-10x2+1", "1");
    split("x8-40x6+352x4-960x2+576", "x8-40x6+352x4-960x2+576", "1");
    split("x6-4x5+4x4+2x3-4x2+1", "x-1", "2", "x2-x-1", "2");
    split("x4+x3+x2+x+1", "x4+x3+x2+x+1", "1");
    split("3x5-9x4+x3-3x2+4x-12", "x-3", "1", "3x4+x2+4", "1");
    split("x8+x7-x5-x4-x3+x+1", "x8+x7-x5-x4-x3+x+1", "1");
    split("999999x2-999998x-1", "x-1", "1", "999999x+1", "1");
    split("x6+2x3+1", "x+1", "2", "x2-x+1", "2");
  }

  private static void refusesToSplit() {
    House h = new House();
    h.factors("x2-1");
    House.due("0", -1, h.factors("0"));
    h = new House();
    h.factors("x2-1");
    House.due("y", -4, h.factors("x+y"));
    h.wrote("the factors stay", "x+1", h.x.factor(1));
    House.due("factor -1", -1, h.x.factor(-1));
    House.due("power 2", -1, h.x.power(2));
  }

  private static int take(House h, int j, String text, int i) {
    h.roots(text);
    return h.x.hold(j, i);
  }

  private static void holds() {
    House h = new House();
    House.due("a root of degree 2 in 4", 2, take(h, 0, "x4-5x2+6", 3));
    h.wrote("its polynomial", "x2-3", h.x.least(0));
    h.wrote("its value", "1", h.x.number(0, 0));
    House.due("a fraction", 1, take(h, 7, "6x2-5x+1", 0));
    h.wrote("its polynomial", "3x-1", h.x.least(7));
    h.wrote("its value", "341", h.x.number(7, 10));
    House.due("no such root", -1, h.x.hold(0, 2));
    House.due("no such root", -1, h.x.hold(0, -1));
    House.due("no such number", -1, h.x.hold(8, 0));
    House.due("no such number", -1, h.x.hold(-1, 0));
    h.wrote("the numbers stay", "x2-3", h.x.least(0));
    h.roots("x-5");
    h.wrote("the roots go, the numbers stay", "x2-3", h.x.least(0));
    House.due("k", -1, h.x.number(0, 201));
    House.due("k", -1, h.x.number(0, -1));
    House.due("none there", -1, h.x.number(1, 0));
    House.due("none there", -1, h.x.least(1));
    House.due("none there", -1, h.x.least(8));
    House.due("none there", -1, h.x.least(-1));
  }

  private static void reckonsRoots() {
    House h = new House();
    take(h, 0, "x2-2", 1);
    take(h, 1, "x2-3", 1);
    House.due("sum", 4, h.x.reckon(2, 0, 0, 1));
    h.wrote("sum", "x4-10x2+1", h.x.least(2));
    h.wrote("sum", "3", h.x.number(2, 0));
    House.due("difference", 4, h.x.reckon(3, 1, 0, 1));
    h.wrote("difference", "x4-10x2+1", h.x.least(3));
    h.wrote("difference", "-326", h.x.number(3, 10));
    House.due("product", 2, h.x.reckon(4, 2, 0, 1));
    h.wrote("product", "x2-6", h.x.least(4));
    House.due("quotient", 2, h.x.reckon(5, 3, 1, 0));
    h.wrote("quotient", "2x2-3", h.x.least(5));
    House.due("back", 2, h.x.reckon(6, 1, 0, 0) + h.x.reckon(6, 3, 0, 0));
    h.wrote("one", "x-1", h.x.least(6));
    House.due("square", 1, h.x.reckon(0, 2, 0, 0));
    h.wrote("square", "x-2", h.x.least(0));
    House.due("of degrees 4 and 2", 2, h.x.reckon(0, 2, 2, 1));
    h.wrote("of degrees 4 and 2", "x2-6x+3", h.x.least(0));
    take(h, 1, "x2-5", 1);
    House.due("of degree 8", 8, h.x.reckon(0, 0, 2, 1));
    h.wrote("of degree 8", "x8-40x6+352x4-960x2+576", h.x.least(0));
    h.wrote("of degree 8", "5", h.x.number(0, 0));
  }

  private static void reckonsFractions() {
    House h = new House();
    take(h, 0, "2x-1", 0);
    take(h, 1, "3x+1", 0);
    House.due("sum", 1, h.x.reckon(2, 0, 0, 1));
    h.wrote("sum", "6x-1", h.x.least(2));
    House.due("difference", 1, h.x.reckon(2, 1, 0, 1));
    h.wrote("difference", "6x-5", h.x.least(2));
    House.due("product", 1, h.x.reckon(2, 2, 0, 1));
    h.wrote("product", "6x+1", h.x.least(2));
    House.due("quotient", 1, h.x.reckon(2, 3, 0, 1));
    h.wrote("quotient", "2x+3", h.x.least(2));
    take(h, 3, "x8-x-1", 1);
    House.due("with degree 8", 8, h.x.reckon(4, 2, 3, 0));
    h.wrote("with degree 8", "256x8-2x-1", h.x.least(4));
    House.due("in its own place", 8, h.x.reckon(4, 3, 4, 0));
    h.wrote("in its own place", "x8-x-1", h.x.least(4));
    House.due("the same again", 1, h.x.compare(3, 4));
  }

  private static void reckonsZero() {
    House h = new House();
    take(h, 0, "x", 0);
    take(h, 1, "x2-2", 0);
    House.due("0 and a root", 2, h.x.reckon(2, 0, 0, 1));
    House.due("the same", 1, h.x.compare(1, 2));
    House.due("0 times it", 1, h.x.reckon(2, 2, 0, 1));
    h.wrote("0", "x", h.x.least(2));
    House.due("it times 0", 1, h.x.reckon(2, 2, 1, 0));
    House.due("0 by it", 1, h.x.reckon(2, 3, 0, 1));
    h.wrote("0", "x", h.x.least(2));
    House.due("it by 0", -1, h.x.reckon(3, 3, 1, 0));
    House.due("0 by 0", -1, h.x.reckon(3, 3, 0, 0));
    House.due("nothing was kept", -1, h.x.least(3));
    House.due("it less itself", 1, h.x.reckon(3, 1, 1, 1));
    h.wrote("0", "x", h.x.least(3));
  }

  private static void refusesToReckon() {
    House h = new House();
    take(h, 0, "x3-2", 0);
    take(h, 1, "x-1", 0);
    House.due("degrees 3 and 3", -1, h.x.reckon(2, 0, 0, 0));
    House.due("no such operation", -1, h.x.reckon(2, 4, 0, 1));
    House.due("no such operation", -1, h.x.reckon(2, -1, 0, 1));
    House.due("no such place", -1, h.x.reckon(8, 0, 0, 1));
    House.due("no such place", -1, h.x.reckon(-1, 0, 0, 1));
    House.due("none there", -1, h.x.reckon(2, 0, 0, 2));
    House.due("none there", -1, h.x.reckon(2, 0, 2, 0));
    House.due("none there", -1, h.x.reckon(2, 0, 8, 0));
    House.due("none there", -1, h.x.reckon(2, 0, 0, -1));
    House.due("nothing was kept", -1, h.x.least(2));
  }

  private static void refusesLong() {
    House h = new House();
    take(h, 0, "x-100000", 0);
    take(h, 1, "x-100000", 0);
    for (int digits = 11; digits <= 56; digits += 5) {
      House.due("10 to more", 1, h.x.reckon(0, 2, 0, 1));
      House.due("bytes", digits + 2, h.x.least(0));
    }
    House.due("61 digits", -1, h.x.reckon(0, 2, 0, 1));
    take(h, 1, "x-99999", 0);
    House.due("60 digits", 1, h.x.reckon(0, 2, 0, 1));
    House.due("bytes", 62, h.x.least(0));
    House.due("65 digits", -1, h.x.reckon(2, 2, 0, 1));
    House.due("what was there stays", 62, h.x.least(0));
    take(h, 3, "x2-2", 1);
    House.due("degree 2, a product with too many", -1, h.x.reckon(2, 2, 0, 3));
    House.due("degree 2, a sum with too many", -1, h.x.reckon(2, 0, 0, 3));
  }

  private static void compares() {
    House h = new House();
    take(h, 0, "x2-2", 1);
    take(h, 1, "x4-4", 1);
    House.due("the same", 1, h.x.compare(0, 1));
    take(h, 2, "470832x-665857", 0);
    House.due("less", 0, h.x.compare(0, 2));
    House.due("greater", 2, h.x.compare(2, 0));
    take(h, 3, "x2-2", 0);
    House.due("its conjugate", 2, h.x.compare(0, 3));
    House.due("itself", 1, h.x.compare(3, 3));
    House.due("none there", -1, h.x.compare(0, 4));
    House.due("none there", -1, h.x.compare(4, 0));
    House.due("none there", -1, h.x.compare(-1, 8));
  }

  /** What is known of a number must not grow with how often it is reckoned with. */
  private static void staysQuick() {
    House h = new House();
    take(h, 0, "x4-10x2+1", 3);
    take(h, 1, "x2-5", 1);
    take(h, 2, "3x-7", 0);
    h.x.reckon(3, 2, 0, 2);
    for (int i = 0; i < 60; i++) {
      House.due("there", 4, h.x.reckon(0, 2, 0, 2));
      House.due("the same", 1, h.x.compare(0, 3));
      House.due("and back", 4, h.x.reckon(0, 3, 0, 2));
      House.due("of degree 8", 8, h.x.reckon(4, 0, 0, 1));
    }
    h.wrote("as it was", "x4-10x2+1", h.x.least(0));
    h.wrote("as it was", "3", h.x.number(0, 0));
  }
}
