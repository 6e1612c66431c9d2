import java.math.BigInteger;

/** The edges of Part III and of the promises 5 to 9. */
public final class EdgesOfRootsTest {
  public static void main(String[] args) {
    readsInXAlone();
    refusesZero();
    findsDifferentRealOnes();
    losesEarlierRoots();
    tellsHowOften();
    tellsFrom0To200();
    tellsTheGreatestWholeNumber();
    tellsNumbersBelowZero();
    refusesRootsThatAreNot();
    tellsSigns();
    countsThoseBelow();
    House.end();
  }

  /** "a POLY in x alone (FAULT at a y)", whatever it means. */
  private static void readsInXAlone() {
    for (String call : new String[] {"roots", "signAt 0", "below 0", "factors"}) {
      Furnished.fault(call, "y", 0);
      Furnished.fault(call, "-y", 1);
      Furnished.fault(call, "x+y", 2);
      Furnished.fault(call, "x+y-y", 2);
      Furnished.fault(call, "y0", 0);
      Furnished.fault(call, "xy0", 1);
      Furnished.fault(call, "0y", 1);
      Furnished.fault(call, "x8y", 2);
      Furnished.fault(call, "x2+3xy2", 5);
      Furnished.fault(call, "x;y", 1);
    }
  }

  /** "Refused when it is 0", "not 0 (refused)". */
  private static void refusesZero() {
    for (String call : new String[] {"roots", "below 0", "below 2", "factors"}) {
      Furnished.refused(call, "0");
      Furnished.refused(call, "-0");
      Furnished.refused(call, "0x8");
      Furnished.refused(call, "x-x");
      Furnished.refused(call, "x2+1-x2-1");
    }
    Furnished.answers("roots", "0x8+1", 0);
    Furnished.answers("below 2", "1", 0);
    Furnished.answers("factors", "-1", 0);
  }

  private static void roots(String text, String want) {
    House h = new House();
    int count = h.roots(text);
    StringBuilder told = new StringBuilder();
    for (int i = 0; i < count; i++) {
      told.append(i == 0 ? "" : " ").append(h.x.times(i)).append('*');
      told.append(h.written("root " + i + " 4"));
    }
    House.due("the roots of " + text + " in 16ths", want, told.toString());
    House.due("times of one more", -1, h.x.times(count));
    House.due("root of one more", -1, h.x.root(count, 4));
  }

  /** "its different real ones, ascending, numbers 0, 1, ..". */
  private static void findsDifferentRealOnes() {
    roots("1", "");
    roots("-999999", "");
    roots("x", "1*0");
    roots("x2+1", "");
    roots("x8+1", "");
    roots("x2-2x+1", "2*16");
    roots("x2-1", "1*-16 1*16");
    roots("-x2+1", "1*-16 1*16");
    roots("x3+x", "1*0");
    roots("x4-5x2+4", "1*-32 1*-16 1*16 1*32");
    roots("x8-1", "1*-16 1*16");
    // eight: the cosines of odd 16ths of a half turn
    roots("128x8-256x6+160x4-32x2+1", "1*-16 1*-14 1*-9 1*-4 1*3 1*8 1*13 1*15");
    roots("x8-36x6+273x4", "1*-81 1*-53 4*0 1*52 1*80");
  }

  /** "its ROOTS are those of the house now". */
  private static void losesEarlierRoots() {
    Furnished.standsBut("roots of a number", Furnished.answers("roots", "5", 0), Furnished.ROOTS,
        ";");
    Furnished.standsBut("roots of none", Furnished.answers("roots", "x2+1", 0), Furnished.ROOTS,
        ";");
    Furnished.standsBut("roots of one", Furnished.answers("roots", "2x-3", 1), Furnished.ROOTS,
        " 1*96;");
    Furnished.stands("below", Furnished.answers("below 2", "x3-x", 3));
    Furnished.stands("signAt", Furnished.answers("signAt 2", "x3-x", 2));
  }

  /** "each with how often it is one", "How often root i is one." */
  private static void tellsHowOften() {
    roots("x8", "8*0");
    roots("x8-8x7+28x6-56x5+70x4-56x3+28x2-8x+1", "8*16");
    roots("x8-8x6+24x4-32x2+16", "4*-23 4*22");
    roots("x7+x6", "1*-16 6*0");
    roots("5x2-10x+5", "2*16");
    roots("x7+3x5+3x3+x", "1*0");
    roots("x3-x2-x+1", "1*-16 2*16");
  }

  private static void told(String text, int i, int k, String want) {
    House h = new House();
    h.roots(text);
    h.wrote("root " + i + " of " + text + " at " + k, want, h.x.root(i, k));
  }

  private static String times2To200(long v) {
    return BigInteger.valueOf(v).shiftLeft(200).toString();
  }

  /** "TOLD at k (0 .. 200)". */
  private static void tellsFrom0To200() {
    String[] writers = {"root 2", "point 2 1", "edge 0 1", "edge 2 0", "number 0", "number 7"};
    for (String writer : writers) {
      for (int k : new int[] {-1, 201, 202, Integer.MIN_VALUE, Integer.MAX_VALUE}) {
        Furnished.refused(writer + " " + k);
      }
    }
    Furnished.writes("root 2 0", "1");
    Furnished.writes("root 2 1", "2");
    Furnished.writes("root 1 200", times2To200(-1));
    Furnished.writes("root 1 199", BigInteger.valueOf(-1).shiftLeft(199).toString());
    Furnished.writes("point 2 1 0", "2");
    Furnished.writes("point 2 1 200", times2To200(2));
    Furnished.writes("edge 0 1 0", "-1");
    Furnished.writes("edge 0 1 200", times2To200(-1));
    Furnished.writes("edge 2 0 200", times2To200(2));
    Furnished.writes("number 7 0", "-1");
    Furnished.writes("number 7 200",
        BigInteger.ONE.shiftLeft(200).divide(BigInteger.valueOf(3)).add(BigInteger.ONE).negate()
        .toString());
    Furnished.writes("number 0 200", BigInteger.TWO.shiftLeft(400).sqrt().toString());
    Furnished.writes("root 0 200", BigInteger.TWO.shiftLeft(400).sqrt().add(BigInteger.ONE)
        .negate().toString());
  }

  /** "the greatest whole number that is at most 2^k r". */
  private static void tellsTheGreatestWholeNumber() {
    told("x", 0, 0, "0");
    told("x", 0, 200, "0");
    told("x-1", 0, 0, "1");
    told("2x-1", 0, 0, "0");
    told("2x-1", 0, 1, "1");
    told("3x-1", 0, 1, "0");
    told("3x-1", 0, 2, "1");
    told("3x-2", 0, 0, "0");
    told("999999x-1", 0, 19, "0");
    told("999999x-1", 0, 20, "1");
    told("999999x-999998", 0, 0, "0");
    told("999998x-999999", 0, 0, "1");
    told("x-999999", 0, 200, times2To200(999999));
    // just above and just below a whole number
    told("x2-999999x-1", 1, 0, "999999");
    told("x2-999999x+1", 1, 0, "999998");
    told("x2-999999x+1", 0, 0, "0");
    told("x2-4", 1, 0, "2");
    told("x2-2", 1, 0, "1");
    told("x2-2", 1, 200, BigInteger.TWO.shiftLeft(400).sqrt().toString());
  }

  private static void tellsNumbersBelowZero() {
    told("x+1", 0, 0, "-1");
    told("x+1", 0, 200, times2To200(-1));
    told("2x+1", 0, 0, "-1");
    told("2x+1", 0, 1, "-1");
    told("2x+1", 0, 2, "-2");
    told("2x+3", 0, 0, "-2");
    told("3x+1", 0, 0, "-1");
    told("3x+1", 0, 1, "-1");
    told("3x+1", 0, 2, "-2");
    told("999999x+1", 0, 0, "-1");
    told("999999x+1", 0, 19, "-1");
    told("999999x+1", 0, 20, "-2");
    told("x2-999999x-1", 0, 0, "-1");
    told("x2+999999x-1", 0, 0, "-1000000");
    told("x2+999999x+1", 0, 0, "-999999");
    told("x2-4", 0, 0, "-2");
    told("x2-2", 0, 0, "-2");
    told("x2-2", 0, 1, "-3");
    told("x3+2", 0, 0, "-2");
    told("x3+8", 0, 0, "-2");
  }

  /** A root "that there is not". */
  private static void refusesRootsThatAreNot() {
    for (int i : new int[] {-1, 3, 4, Integer.MIN_VALUE, Integer.MAX_VALUE}) {
      Furnished.refused("times " + i);
      Furnished.refused("root " + i + " 0");
      Furnished.refused("hold 0 " + i);
      Furnished.refused("hold 1 " + i);
      Furnished.refused("signAt " + i, "x");
      Furnished.refused("below " + i, "x");
    }
    House h = Furnished.house();
    House.due("times of the first", 1, h.x.times(0));
    House.due("times of the last", 1, h.x.times(2));
    h.wrote("the first", "-2", h.x.root(0, 0));
    h.wrote("the last", "1", h.x.root(2, 0));
    House.due("signAt of the last", 2, h.read("signAt 2", "x"));
    House.due("below of the last", 1, h.read("below 2", "x"));
  }

  /** "its sign at root i, 1, 0 or -1, and 1 more: 2, 1 or 0". */
  private static void tellsSigns() {
    Furnished.answers("signAt 0", "0", 1);
    Furnished.answers("signAt 0", "x-x", 1);
    Furnished.answers("signAt 0", "1", 2);
    Furnished.answers("signAt 0", "-1", 0);
    Furnished.answers("signAt 0", "x2-2", 1);
    Furnished.answers("signAt 2", "x2-2", 1);
    Furnished.answers("signAt 1", "x2-2", 0);
    Furnished.answers("signAt 1", "x+1", 1);
    Furnished.answers("signAt 0", "x+1", 0);
    Furnished.answers("signAt 2", "x+1", 2);
    Furnished.answers("signAt 1", "x8-1", 1);
    // fractions next to the root of 2
    Furnished.answers("signAt 2", "470832x-665857", 0);
    Furnished.answers("signAt 2", "195025x-275807", 2);
    Furnished.answers("signAt 0", "470832x+665857", 2);
    Furnished.answers("signAt 0", "195025x+275807", 0);
  }

  /** "how many of its own ROOTS (different ones) are below root i". */
  private static void countsThoseBelow() {
    Furnished.answers("below 0", "x2-2", 0);
    Furnished.answers("below 2", "x2-2", 1);
    Furnished.answers("below 1", "x+1", 0);
    Furnished.answers("below 1", "x+2", 1);
    Furnished.answers("below 1", "x", 0);
    Furnished.answers("below 2", "x8", 1);
    Furnished.answers("below 2", "x2+2x+1", 1);
    Furnished.answers("below 2", "x2+1", 0);
    Furnished.answers("below 2", "-3", 0);
    Furnished.answers("below 2", "128x8-256x6+160x4-32x2+1", 8);
    Furnished.answers("below 0", "128x8-256x6+160x4-32x2+1", 0);
    Furnished.answers("below 1", "x8-1", 0);
    Furnished.answers("below 2", "470832x-665857", 0);
    Furnished.answers("below 2", "195025x-275807", 1);
    Furnished.answers("below 0", "470832x+665857", 1);
    Furnished.answers("below 0", "195025x+275807", 0);
  }
}
