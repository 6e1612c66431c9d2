/** The edges of Part IV and of the promises 10 to 12. */
public final class EdgesOfPointsTest {
  public static void main(String[] args) {
    takesDegree3();
    takesCoefficientsTo200();
    isSmallByWhatItMeans();
    refusesWhatDividesBoth();
    takesNumbersThatDivideBoth();
    takesZeroAndANumber();
    refusesZeroAndMore();
    losesEarlierPoints();
    ordersByXThenByY();
    findsAllKinds();
    tellsPlaces();
    refusesPointsThatAreNot();
    tellsSigns();
    House.end();
  }

  private static void points(String text, int want) {
    Furnished.answers("points", text, want);
  }

  private static void refused(String text) {
    Furnished.refused("points", text);
  }

  /** A polynomial that is SMALL is taken in both places and by signAtPoint. */
  private static void small(String poly) {
    House h = new House();
    House.due("points of " + poly + " and 1", 0, h.points(poly + ";1"));
    House.due("points of 1 and " + poly, 0, h.points("1;" + poly));
    int sign = Furnished.house().read("signAtPoint 0", poly);
    House.due("signAtPoint of " + poly, 1, sign >= 0 ? 1 : sign);
  }

  /** One that is not is refused there. */
  private static void notSmall(String poly) {
    refused(poly + ";1");
    refused("1;" + poly);
    refused(poly + ";y");
    refused("0;" + poly);
    Furnished.refused("signAtPoint 0", poly);
    Furnished.refused("signAtPoint 3", poly);
  }

  /** "terms have degree at most 3". */
  private static void takesDegree3() {
    small("x3");
    small("y3");
    small("x2y");
    small("xy2");
    small("x3-x2y+xy2-y3+x2+1");
    notSmall("x4");
    notSmall("y4");
    notSmall("x3y");
    notSmall("x2y2");
    notSmall("xy3");
    notSmall("x+y-x8");
  }

  /** "coefficients are -200 .. 200". */
  private static void takesCoefficientsTo200() {
    small("200");
    small("-200");
    small("200x3-200y3+200xy-200");
    small("-200x+200");
    notSmall("201");
    notSmall("-201");
    notSmall("201x");
    notSmall("-201x");
    notSmall("x-201");
    notSmall("x+201");
    notSmall("201y3");
    notSmall("x2y-201xy2");
    notSmall("999999x");
    notSmall("x-999999" + "-999999".repeat(45));
  }

  /** SMALL is said of the polynomial, not of its text. */
  private static void isSmallByWhatItMeans() {
    small("x8-x8+x");
    small("0x8+x");
    small("0x4y4");
    small("300x-100x");
    small("-300x+100x");
    small("x+999999-999999");
    notSmall("100x+101x");
    notSmall("-100-101");
    notSmall("x3x-2x4");
  }

  /** "a polynomial with a term of degree 1 or more that divides both". */
  private static void refusesWhatDividesBoth() {
    refused("x;x");
    refused("y;y");
    refused("x;-x");
    refused("2x;3x");
    refused("2x+2;3x+3");
    refused("4y-2;6y-3");
    refused("xy;x2");
    refused("xy;y2");
    refused("xy;x");
    refused("x3;x");
    refused("x2-1;x3-x");
    refused("x2-y2;x2-2xy+y2");
    refused("x2-y2;x+y");
    refused("x2y+x;xy2+y");
    refused("x2-x;xy-y");
    refused("xy-x;xy-2x");
    refused("xy-y;xy-2y");
    // without real points, and with a single one
    refused("x2+1;x3+x");
    refused("y2+1;y2x+x");
    refused("x2+y2+1;2x2+2y2+2");
    refused("x2+y2;x3+xy2");
    refused("x2-2;x3-2x");
    refused("x2-2y2;x3-2xy2");
  }

  /** A number has no term of degree 1: it may divide both; and points without one need not be. */
  private static void takesNumbersThatDivideBoth() {
    points("2x;2y", 1);
    points("200x-200;200y-200", 1);
    points("2;4", 0);
    points("1;1", 0);
    points("5;x", 0);
    points("x3+y3+1;-7", 0);
    points("x;x-1", 0);
    points("y;y-1", 0);
    points("x2-2;x2-3", 0);
    points("x+y;x+y+1", 0);
    points("x2+1;y2+1", 0);
    points("x2+1;x2+2", 0);
    points("x2+y2;x", 1);
    points("xy;x+y", 1);
  }

  /** "of 0 and a number that is not 0 there are no COMMON POINTS, but they are not refused". */
  private static void takesZeroAndANumber() {
    points("0;1", 0);
    points("1;0", 0);
    points("0;-200", 0);
    points("200;x-x", 0);
    points("xy-yx;5", 0);
  }

  /** "if one of them is 0, and the other is 0 or has degree 1 or more". */
  private static void refusesZeroAndMore() {
    refused("0;0");
    refused("x-x;0");
    refused("0;x");
    refused("x;0");
    refused("0;y");
    refused("y;0");
    refused("0;x3+1");
    refused("y3+1;0");
    refused("0;xy");
    refused("x2+1;y-y");
  }

  /** "their COMMON POINTS are those of the house now". */
  private static void losesEarlierPoints() {
    Furnished.standsBut("points of 0 and 5", Furnished.answers("points", "0;5", 0),
        Furnished.POINTS, ";");
    Furnished.standsBut("points of none", Furnished.answers("points", "x2+1;y", 0),
        Furnished.POINTS, ";");
    Furnished.standsBut("points of one", Furnished.answers("points", "2x-1;y+3", 1),
        Furnished.POINTS, " 1,-6;");
    Furnished.stands("signAtPoint", Furnished.answers("signAtPoint 0", "x", 0));
  }

  /** The points, in quarters. */
  private static void are(String text, String want) {
    House h = new House();
    int count = h.points(text);
    StringBuilder told = new StringBuilder();
    for (int i = 0; i < count; i++) {
      told.append(i == 0 ? "" : " ").append(h.written("point " + i + " 0 2")).append(',');
      told.append(h.written("point " + i + " 1 2"));
    }
    House.due("the points of " + text, want, told.toString());
    House.due("one more", -1, h.x.point(count, 0, 0));
    House.due("one more", -1, h.x.point(count, 1, 0));
  }

  /** "by x, then by y, ascending". */
  private static void ordersByXThenByY() {
    are("x2-1;y2-1", "-4,-4 -4,4 4,-4 4,4");
    are("y2-1;x2-1", "-4,-4 -4,4 4,-4 4,4");
    are("x;y3-y", "0,-4 0,0 0,4");
    are("y;x3-x", "-4,0 0,0 4,0");
    are("x+y;x2-1", "-4,4 4,-4");
    are("x2-2;y2-2", "-6,-6 -6,5 5,-6 5,5");
    // x that differ by little: their y is of no account
    are("100x2+y2-1;x+y-1", "0,4 0,3");
  }

  /** Lines upright and level, double ones, points alone, and as many as can be. */
  private static void findsAllKinds() {
    are("x2;y2", "0,0");
    are("x3-3x2+3x-1;y3", "4,0");
    are("y-x3;y", "0,0");
    are("x2+y2;y", "0,0");
    are("x3-4x;y3-4y", "-8,-8 -8,0 -8,8 0,-8 0,0 0,8 8,-8 8,0 8,8");
    are("xy-1;x", "");
    are("xy-1;y", "");
    are("xy-1;x-y", "-4,-4 4,4");
    are("x2y-x;y", "0,0");
    are("xy;x+y-1", "0,4 4,0");
    are("x2-x;xy+y", "0,0 4,0");
  }

  /** "Of point i the x (which 0) or y (1), TOLD at k". */
  private static void tellsPlaces() {
    House h = new House();
    h.points("2x+1;3y+1");
    h.wrote("the x", "-1", h.x.point(0, 0, 0));
    h.wrote("the y", "-1", h.x.point(0, 1, 0));
    h.wrote("the x at 1", "-1", h.x.point(0, 0, 1));
    h.wrote("the y at 2", "-2", h.x.point(0, 1, 2));
    h.points("x2-2;x-y");
    h.wrote("the x below 0", "-2", h.x.point(0, 0, 0));
    h.wrote("the y above 0 at 200",
        "2272553576084360916141657902949647315979581976043234410928602", h.x.point(1, 1, 200));
    for (int which : new int[] {-1, 2, 3, Integer.MIN_VALUE, Integer.MAX_VALUE}) {
      Furnished.refused("point 0 " + which + " 0");
      Furnished.refused("point 3 " + which + " 200");
    }
    Furnished.writes("point 3 0 0", "2");
    Furnished.writes("point 3 1 0", "1");
  }

  /** A point "that there is not". */
  private static void refusesPointsThatAreNot() {
    for (int i : new int[] {-1, 4, 5, Integer.MIN_VALUE, Integer.MAX_VALUE}) {
      Furnished.refused("point " + i + " 0 0");
      Furnished.refused("point " + i + " 1 0");
      Furnished.refused("signAtPoint " + i, "x");
    }
    Furnished.writes("point 0 0 0", "-2");
    Furnished.writes("point 0 1 0", "-1");
    Furnished.answers("signAtPoint 0", "x", 0);
    Furnished.answers("signAtPoint 3", "x", 2);
  }

  /** What signAtPoint answers for one polynomial at all points. */
  private static void signs(String text, String poly, String want) {
    House h = new House();
    int count = h.points(text);
    StringBuilder all = new StringBuilder();
    for (int i = 0; i < count; i++) {
      all.append(i == 0 ? "" : " ").append(h.read("signAtPoint " + i, poly));
    }
    House.due("the signs of " + poly + " at the points of " + text, want, all.toString());
  }

  /** "its sign at point i, and 1 more: 2, 1 or 0". */
  private static void tellsSigns() {
    Furnished.answers("signAtPoint 0", "0", 1);
    Furnished.answers("signAtPoint 0", "y-y", 1);
    Furnished.answers("signAtPoint 0", "200", 2);
    Furnished.answers("signAtPoint 0", "-200", 0);
    Furnished.answers("signAtPoint 0", "x+2", 1);
    Furnished.answers("signAtPoint 0", "y+1", 1);
    Furnished.answers("signAtPoint 1", "y+1", 0);
    Furnished.answers("signAtPoint 2", "xy-2", 1);
    Furnished.answers("signAtPoint 2", "x-y", 0);
    Furnished.answers("signAtPoint 3", "x-y", 2);
    Furnished.answers("signAtPoint 3", "x3-8", 1);
    // 0 there more than once, and three points above one x
    Furnished.answers("signAtPoint 2", "4x2-4xy+y2", 1);
    Furnished.answers("signAtPoint 2", "y3-6y2+12y-8", 1);
    Furnished.answers("signAtPoint 3", "y3-6y2+12y-8", 0);
    signs("x;y3-y", "y2-1", "1 0 1");
    signs("x;y3-y", "y2-y", "2 1 1");
    signs("x;y3-y", "y2+y", "1 1 2");
    signs("x;y3-y", "y3-y+x", "1 1 1");
    signs("x2-2;y3-2y", "x-y", "1 0 0 2 2 1");
    signs("x2-2;y3-2y", "x2-2xy+y2", "1 2 2 2 2 1");
    // near 0: fractions next to the root of 2
    House h = new House();
    h.points("x2-2;x-y");
    House.due("140x-198", 0, h.read("signAtPoint 1", "140x-198"));
    House.due("99y-140", 2, h.read("signAtPoint 1", "99y-140"));
    House.due("70x-99y+29y", 1, h.read("signAtPoint 1", "70x-99y+29y"));
  }
}
