/** The edges of Part II and of promise 4. */
public final class EdgesOfTellTest {
  public static void main(String[] args) {
    takesWhatFrom0To8();
    derives();
    dividesByTheGreatest();
    turnsTheSign();
    leavesZero();
    findsResultantsOfZero();
    findsResultantsOfDegree0();
    findsResultantsByTheirOwnDegrees();
    laysRowsInTheirOrder();
    refusesDegree5();
    findsDivisors();
    refusesDivisorsInY();
    chainsUpTo16();
    chainsZero();
    refusesChainsInY();
    findsDeterminants();
    House.end();
  }

  private static void is(int what, String text, String want) {
    Furnished.writes("tell " + what, text, want);
  }

  private static void refused(int what, String text) {
    Furnished.refused("tell " + what, text);
  }

  /** "REFUSED also for another what (ahead of the text)." */
  private static void takesWhatFrom0To8() {
    is(0, "2x2y", "2x2y");
    is(1, "2x2y", "4xy");
    is(2, "2x2y", "2x2");
    is(3, "2x2y", "x2y");
    is(4, "2x;3x", "6x2");
    is(5, "2x;3y", "2x");
    is(6, "2x;3x", "x");
    is(7, "2x;3x", "6x");
    is(8, "2x;3y", "6");
    for (int what : new int[] {-1, 9, 10, -9, Integer.MIN_VALUE, Integer.MAX_VALUE}) {
      refused(what, "x");
      refused(what, "x;x");
      refused(what, "?");
      refused(what, "");
      Furnished.unread("tell " + what + " 21", "x");
    }
    // one POLY for 0 to 3, two with ; between for 4 to 8
    for (int what = 0; what <= 3; what++) {
      Furnished.fault("tell " + what, "x;x", 1);
    }
    for (int what = 4; what <= 8; what++) {
      Furnished.fault("tell " + what, "x", 1);
      Furnished.fault("tell " + what, "x;", 2);
      Furnished.fault("tell " + what, "x;x;x", 3);
    }
  }

  private static void derives() {
    is(1, "x8", "8x7");
    is(1, "999999x8", "7999992x7");
    is(1, "y8", "0");
    is(1, "0", "0");
    is(1, "x+y", "1");
    is(2, "y8", "8y7");
    is(2, "x8", "0");
    is(2, "7", "0");
    is(2, "x7y-y", "x7-1");
  }

  /** "divided by the greatest number that divides all coefficients". */
  private static void dividesByTheGreatest() {
    is(3, "6x+9y", "2x+3y");
    is(3, "6x+9y+2", "6x+9y+2");
    is(3, "999999x", "x");
    is(3, "999999x-999998", "999999x-999998");
    is(3, "4x2+6x-8y", "2x2+3x-4y");
    is(3, "1", "1");
    is(3, "7", "1");
    is(3, "x", "x");
  }

  /** "and by -1 if the coefficient of the first term as WRITTEN is below 0". */
  private static void turnsTheSign() {
    is(3, "-7", "1");
    is(3, "-x", "x");
    is(3, "x-1", "x-1");
    is(3, "-x+1", "x-1");
    is(3, "1-x", "x-1");
    is(3, "y8-x", "x-y8");
    is(3, "x-y8", "x-y8");
    is(3, "xy-xy2", "xy2-xy");
    is(3, "xy2-xy", "xy2-xy");
    is(3, "-2y2+4y", "y2-2y");
    is(3, "-6x+3", "2x-1");
  }

  /** "Of 0: 0." */
  private static void leavesZero() {
    is(3, "0", "0");
    is(3, "-0", "0");
    is(3, "x-x", "0");
    is(3, "0x3y2", "0");
  }

  /** "If one of p and q is 0: 0." */
  private static void findsResultantsOfZero() {
    is(5, "0;0", "0");
    is(5, "0;5", "0");
    is(5, "5;0", "0");
    is(5, "0;x", "0");
    is(5, "x;0", "0");
    is(5, "0;y", "0");
    is(5, "y;0", "0");
    is(5, "0;y4+1", "0");
    is(5, "x2y4;x-x", "0");
    is(5, "y-y;y4", "0");
  }

  /** "If m is 0: p to the power n; if n is 0: q to the power m (1 if both are 0)." */
  private static void findsResultantsOfDegree0() {
    is(5, "x;y", "x");
    is(5, "-x;y3", "-x3");
    is(5, "x-1;y2+x", "x2-2x+1");
    is(5, "2;y4", "16");
    is(5, "-1;y3", "-1");
    is(5, "x8;y4", "x32");
    is(5, "y;x", "x");
    is(5, "y3;-x", "-x3");
    is(5, "y2+x;x-1", "x2-2x+1");
    is(5, "y4;-2", "16");
    is(5, "x;x", "1");
    is(5, "x;x+1", "1");
    is(5, "5;7", "1");
    is(5, "-5;x8", "1");
  }

  /** "with degrees m and n (their own: the leading coefficients .. are not 0)". */
  private static void findsResultantsByTheirOwnDegrees() {
    is(5, "0y4+x;y", "x");
    is(5, "y2-y2+3;y2+x", "9");
    is(5, "y4+y-y4;y-x", "-x");
    is(5, "xy2-xy2+y-1;y2", "1");
    is(5, "y5-y5+y;y5-3-y5+y2", "-3");
    // a leading coefficient that is 0 at one x alone counts
    is(5, "xy+1;xy+2", "x");
    is(5, "xy2+1;y", "1");
  }

  /** "n rows of p's coefficients, from the highest on, .. and below m such rows of q's". */
  private static void laysRowsInTheirOrder() {
    is(5, "y-x;y-1", "x-1");
    is(5, "y-1;y-x", "-x+1");
    is(5, "2y+3;5y+7", "-1");
    is(5, "5y+7;2y+3", "1");
    is(5, "y2-x;y-1", "-x+1");
    is(5, "y-1;y2-x", "-x+1");
    is(5, "y3-x;y-1", "x-1");
    is(5, "y-1;y3-x", "-x+1");
    is(5, "y4-x;y4-1", "x4-4x3+6x2-4x+1");
    is(5, "y4-x;y3-1", "-x3+1");
    is(5, "y3-1;y4-x", "-x3+1");
  }

  /** "refused if one's degree in y is above 4, also if the other is 0". */
  private static void refusesDegree5() {
    is(5, "y4;y", "0");
    is(5, "y4+x;y4", "x4");
    is(5, "x4y4+1;x", "x4");
    is(5, "x8;y4-x", "x32");
    refused(5, "y5;y");
    refused(5, "y;y5");
    refused(5, "xy5;x");
    refused(5, "x;xy5");
    refused(5, "y5;1");
    refused(5, "1;y5");
    refused(5, "y5;0");
    refused(5, "0;y5");
    refused(5, "0;y8");
    refused(5, "y8;x-x");
    refused(5, "y5;y5");
    is(5, "y5-y5;x", "0");
    is(5, "0;y5-y5+y4", "0");
  }

  /** "the greatest common divisor, PRIMITIVE (0 if both are 0". */
  private static void findsDivisors() {
    is(6, "0;0", "0");
    is(6, "x-x;0x8", "0");
    is(6, "0;6x-4", "3x-2");
    is(6, "4-6x;0", "3x-2");
    is(6, "0;5", "1");
    is(6, "-5;0", "1");
    is(6, "4;6", "1");
    is(6, "4;6x", "1");
    is(6, "x8;4", "1");
    is(6, "4x2;-6x", "x");
    is(6, "-2x-2;-4x-4", "x+1");
    is(6, "x8-1;x6-1", "x2-1");
    is(6, "x8-2;x8-2", "x8-2");
    is(6, "x8+x+1;x7-3", "1");
  }

  /** "both in x alone by what they mean, so x+y-y is: otherwise refused". */
  private static void refusesDivisorsInY() {
    is(6, "x+y-y;x", "x");
    is(6, "x;x+y-y", "x");
    is(6, "xy0;x2+0y8", "x");
    is(6, "y-y;x", "x");
    refused(6, "y;x");
    refused(6, "x;y");
    refused(6, "y;y");
    refused(6, "xy;xy");
    refused(6, "0;y");
    refused(6, "y;0");
    refused(6, "5;x+y");
    refused(6, "x+y;5");
  }

  /** "the product of their degrees .. at most 16: otherwise refused". */
  private static void chainsUpTo16() {
    is(7, "x8;x2", "x16");
    is(7, "x2;x8", "x16");
    is(7, "x4;x4", "x16");
    is(7, "x5;x3", "x15");
    is(7, "x8;x", "x8");
    is(7, "x;x8", "x8");
    refused(7, "x6;x3");
    refused(7, "x3;x6");
    refused(7, "x5;x4");
    refused(7, "x4;x5");
    refused(7, "x7;x3");
    refused(7, "x8;x3");
    refused(7, "x8;x8");
    // degrees are of what they mean
    is(7, "x8-x8+x2;x8", "x16");
    is(7, "x3+x;x6-x6+x5", "x15+x5");
  }

  /** "0 having degree 0". */
  private static void chainsZero() {
    is(7, "0;x8", "0");
    is(7, "x8;0", "0");
    is(7, "x8+3;0", "3");
    is(7, "0;0", "0");
    is(7, "5;x8", "5");
    is(7, "x8;1", "1");
    is(7, "0;5", "0");
    is(7, "5;0", "5");
    is(7, "x-x;x8-x+1", "0");
  }

  /** "both in x alone". */
  private static void refusesChainsInY() {
    refused(7, "y;x");
    refused(7, "x;y");
    refused(7, "y;5");
    refused(7, "0;y");
    refused(7, "y;0");
    refused(7, "xy;x");
    is(7, "x+y-y;x2", "x2");
    is(7, "x2;x+xy-yx", "x2");
  }

  /** "the determinant of the four derivatives (p by x, p by y, then q's)". */
  private static void findsDeterminants() {
    is(8, "x;y", "1");
    is(8, "y;x", "-1");
    is(8, "x2y;xy2", "3x2y2");
    is(8, "5;x+y", "0");
    is(8, "x+y;0", "0");
    is(8, "0;0", "0");
    is(8, "x8;y8", "64x7y7");
  }
}
