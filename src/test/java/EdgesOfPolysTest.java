import java.math.BigInteger;

/** The edges that Part I names of POLYS, as they are read and as they are WRITTEN. */
public final class EdgesOfPolysTest {
  /** The calls that read POLYS, and what stands in their texts ahead of one and behind it. */
  private static final String[][] PLACES = {
    {"tell 0", "", ""}, {"tell 3", "", ""}, {"tell 4", "", ";x"}, {"tell 4", "x;", ""},
    {"roots", "", ""}, {"signAt 0", "", ""}, {"below 0", "", ""}, {"points", "", ";y"},
    {"points", "y;", ""}, {"signAtPoint 0", "", ""}, {"factors", "", ""}, {"decide", "Ex", "=1"},
    {"decide", "Ex1<", ""}, {"decide", "Ex(~1<x|", "=1)"}, {"solve", "", ">=1"},
    {"solve", "Ey1#", ""},
  };

  public static void main(String[] args) {
    beginsPerhapsWithMinus();
    joinsTerms();
    takesSixDigits();
    takesZerosAhead();
    takesLettersAndDigits();
    growsToDegree8();
    growsToDegree8InEveryText();
    growsThoughItIsZero();
    sumsWhatItReads();
    ordersTerms();
    leavesOutOne();
    leavesOutPowers();
    writesZeroByItself();
    writesPowersAboveNine();
    writesGreatNumbers();
    House.end();
  }

  private static void is(String text, String want) {
    Furnished.writes("tell 0", text, want);
  }

  private static void fault(String text, int place) {
    Furnished.fault("tell 0", text, place);
  }

  /** A POLY with a fault has it in every text that may have that POLY. */
  private static void faultEverywhere(String poly, int place) {
    for (String[] row : PLACES) {
      Furnished.fault(row[0], row[1] + poly + row[2], row[1].length() + place);
    }
  }

  /** Such a POLY, SMALL and not a mere number, has none. */
  private static void fineEverywhere(String poly) {
    for (String[] row : PLACES) {
      int answer = Furnished.house().read(row[0], row[1] + poly + row[2]);
      House.due(row[0] + " of " + poly + " answers", 1, answer >= 0 ? 1 : answer);
    }
  }

  /** "perhaps a -, then TERMS". */
  private static void beginsPerhapsWithMinus() {
    is("x", "x");
    is("-x", "-x");
    is("-5", "-5");
    is("-0", "0");
    fineEverywhere("-x");
    faultEverywhere("--x", 1);
    faultEverywhere("+x", 0);
    faultEverywhere("-+x", 1);
  }

  /** "TERMS with + or - between". */
  private static void joinsTerms() {
    is("x+y", "x+y");
    is("x-y", "x-y");
    is("-x-y", "-x-y");
    fineEverywhere("2-x+1");
    faultEverywhere("x++1", 2);
    faultEverywhere("x+-1", 2);
    faultEverywhere("x--1", 2);
    faultEverywhere("x-+1", 2);
    fault("x*y", 1);
    fault("2(x)", 1);
  }

  /** "a number of 1 to 6 digits". */
  private static void takesSixDigits() {
    is("7", "7");
    is("999999", "999999");
    is("-123456x", "-123456x");
    fineEverywhere("x+123456-123456");
    faultEverywhere("1234567", 6);
    faultEverywhere("1234567x", 6);
    faultEverywhere("x-1234567", 8);
    faultEverywhere("12345678", 6);
  }

  /** "(0s ahead may be)": they are digits as the others. */
  private static void takesZerosAhead() {
    is("000001", "1");
    is("000000", "0");
    is("00", "0");
    is("-000012x", "-12x");
    is("x+01", "x+1");
    fineEverywhere("000001x");
    faultEverywhere("0000001", 6);
    faultEverywhere("0000000", 6);
    faultEverywhere("0000000x", 6);
  }

  /** "any of x, x and a digit, y, y and a digit (.., x0 1), or only such". */
  private static void takesLettersAndDigits() {
    is("3", "3");
    is("3x", "3x");
    is("x1", "x");
    is("y1", "y");
    is("x0", "1");
    is("y0", "1");
    is("x0y0", "1");
    is("-x0", "-1");
    is("5x0", "5");
    is("x0x0x0x0x0x0x0x0x0x0", "1");
    is("x2", "x2");
    is("xx", "x2");
    is("yxyx", "x2y2");
    is("y2x3y", "x3y3");
    is("2x1y1x1", "2x2y");
    fineEverywhere("x0x");
    faultEverywhere("x11", 2);
    faultEverywhere("x00", 2);
    fault("x2 3", 2);
    fault("xy12", 3);
    fault("x2z", 2);
    fault("x2x3y34", 6);
    fault("x3 ", 2);
  }

  /** "degree .. at most 8: a FAULT at the letter with which it grows above that". */
  private static void growsToDegree8() {
    is("x8", "x8");
    is("y8", "y8");
    is("x4y4", "x4y4");
    is("xxxxxxxx", "x8");
    is("xyxyxyxy", "x4y4");
    is("x7y", "x7y");
    is("x8x0", "x8");
    is("x8y0x0", "x8");
    is("y0x8", "x8");
    is("x8+y8+x8", "2x8+y8");
    fault("x9", 0);
    fault("y9", 0);
    fault("7x9", 1);
    fault("x8x", 2);
    fault("x8y", 2);
    fault("x8y1", 2);
    fault("x8y0x", 4);
    fault("xxxxxxxxx", 8);
    fault("xyxyxyxyx", 8);
    fault("x4y5", 2);
    fault("x5x5x5", 2);
    fault("y7x2", 2);
    fault("x7yy0y", 5);
    fault("1+x8-3x4y4y9", 10);
    // what stands behind is not looked at
    fault("x8x?", 2);
    fault("x9?", 0);
  }

  private static void growsToDegree8InEveryText() {
    fineEverywhere("x-x8+x8");
    faultEverywhere("x9", 0);
    faultEverywhere("x8x", 2);
    faultEverywhere("x8+x4x5", 5);
    faultEverywhere("2x8x8", 3);
    fault("x9;x", 0);
    Furnished.fault("tell 4", "x8;x4x5", 5);
    Furnished.fault("signAtPoint 0", "x4y5", 2);
    Furnished.fault("points", "x;x4y5", 4);
    Furnished.fault("decide", "ExEyx4y5=1", 6);
    Furnished.fault("solve", "Eyx4y5=1", 4);
  }

  /** The degree of a TERM does not hang on its number. */
  private static void growsThoughItIsZero() {
    is("0x8", "0");
    faultEverywhere("0x9", 1);
    faultEverywhere("000000x8x", 8);
    faultEverywhere("x-x9+x9", 2);
  }

  /** "It means the sum." */
  private static void sumsWhatItReads() {
    is("x+x", "2x");
    is("x-x", "0");
    is("x-x-x", "-x");
    is("999999+999999", "1999998");
    is("-999999x-999999x", "-1999998x");
    is("xy+yx+x1y1", "3xy");
    is("x0+y0", "2");
    is("-x+x0+x", "1");
    is("999999" + "+999999".repeat(56), "56999943");
  }

  /** "by the power of x, the greater first, then by that of y". */
  private static void ordersTerms() {
    is("1+y+y2+x+xy+x2", "x2+xy+x+y2+y+1");
    is("y8+x", "x+y8");
    is("y7x+x2", "x2+xy7");
    is("xy2+xy3+x", "xy3+xy2+x");
    is("5-y8-x8", "-x8-y8+5");
    is("-1-x", "-x-1");
  }

  /** "its number, but not 1 (if x or y stand there)". */
  private static void leavesOutOne() {
    is("1x", "x");
    is("1y", "y");
    is("-1xy", "-xy");
    is("1", "1");
    is("-1", "-1");
    is("x-1", "x-1");
    is("x+1", "x+1");
    is("2x-1x+1y-1", "x+y-1");
    is("11x", "11x");
    is("10y", "10y");
    is("-2x", "-2x");
    // 2^30 and 2^30+1: no limb may be taken for a 1
    Furnished.writes("tell 4", "32768;32768x", "1073741824x");
    Furnished.writes("tell 4", "32768x;32768x+y", "1073741824x2+32768xy");
    Furnished.writes("tell 7", "x2+1;32768", "1073741825");
  }

  /** "then x (if its power is not 0) and the power, if above 1, then y likewise". */
  private static void leavesOutPowers() {
    is("x1y1", "xy");
    is("x1y2", "xy2");
    is("x2y1", "x2y");
    is("x0y3", "y3");
    is("x3y0", "x3");
    is("4x0y0", "4");
  }

  /** "0 by itself if there is none". */
  private static void writesZeroByItself() {
    is("0", "0");
    is("-0", "0");
    is("0x3y2", "0");
    is("x2-x2+0", "0");
    is("x+0", "x");
    is("0x2+y", "y");
    Furnished.writes("tell 1", "5+y", "0");
    Furnished.writes("tell 2", "5+x", "0");
    Furnished.writes("tell 3", "x-x", "0");
    Furnished.writes("tell 4", "x-x;y", "0");
    Furnished.writes("tell 5", "y;y", "0");
    Furnished.writes("tell 6", "0;x-x", "0");
    Furnished.writes("tell 7", "x;0", "0");
    Furnished.writes("tell 8", "x;x", "0");
  }

  /** "Powers above 9 are written with all their digits". */
  private static void writesPowersAboveNine() {
    Furnished.writes("tell 4", "x8;x", "x9");
    Furnished.writes("tell 4", "x8;x2", "x10");
    Furnished.writes("tell 4", "y8;y3", "y11");
    Furnished.writes("tell 4", "y8;y", "y9");
    Furnished.writes("tell 4", "x8;x8", "x16");
    Furnished.writes("tell 4", "-y8;y8", "-y16");
    Furnished.writes("tell 4", "x8+y8;x8+y8", "x16+2x8y8+y16");
    Furnished.writes("tell 5", "y4+x3;y4-x3", "16x12");
    Furnished.writes("tell 5", "x5;y4", "x20");
    Furnished.writes("tell 5", "y4;x7", "x28");
    Furnished.writes("tell 5", "x8;y4", "x32");
    Furnished.writes("tell 7", "x5-x4;x3", "x15-x12");
    Furnished.writes("tell 8", "x8;x7y", "8x14");
    Furnished.writes("tell 8", "y8;xy7", "-8y14");
  }

  /** "all numbers, however great". */
  private static void writesGreatNumbers() {
    BigInteger most = BigInteger.valueOf(999999);
    Furnished.writes("tell 4", "999999x8;-999999y8", "-" + most.pow(2) + "x8y8");
    Furnished.writes("tell 7", "x8;999999", most.pow(8).toString());
    Furnished.writes("tell 7", "x7;-999999", "-" + most.pow(7));
    Furnished.writes("tell 7", "999999x8;999999x2", most.pow(9) + "x16");
    // a y^4 + 1 and a y^4 - 1: 16 a^4
    Furnished.writes("tell 5", "999999x4y4+1;999999x4y4-1",
        most.pow(4).multiply(BigInteger.valueOf(16)) + "x16");
    BigInteger great = BigInteger.valueOf(49 * 999999L);
    Furnished.writes("tell 7", "x8;999999" + "+999999".repeat(48), great.pow(8).toString());
    // the OUT has no bound as the tape has
    BigInteger[] p = Polys.filled(9, -999999);
    BigInteger[] q = Polys.filled(3, 999999);
    String want = Polys.written(Polys.chain(p, q));
    House.due("it is longer than the tape", 1, want.length() > 800 ? 1 : want.length());
    House h = new House();
    int bytes = h.read("tell 7", Polys.written(p) + ";" + Polys.written(q));
    House.due("its bytes", want.length(), bytes);
    for (int i = 0; i < want.length(); i++) {
      // an object has 512 calls: each byte is looked at in a house that has made but a few
      if (i % 400 == 0) {
        h = new House();
        h.read("tell 7", Polys.written(p) + ";" + Polys.written(q));
      }
      House.due("byte " + i + " of a long OUT", want.charAt(i), h.x.out(i));
    }
    House.due("behind a long OUT", -1, h.x.out(want.length()));
  }
}
