import java.util.TreeSet;

/** The edges of SOLUTIONS in Part V, and of the promises 14 to 16. */
public final class EdgesOfSolutionsTest {
  public static void main(String[] args) {
    tellsPerhapsY();
    takesYIfItWasTold();
    goesOnWithoutEnd();
    endsThatBelongOrNot();
    isASingleNumber();
    hasAsFewAsCanBe();
    hasNoneAtAll();
    hasMany();
    losesEarlierPieces();
    tellsFiveThings();
    tellsEnds();
    refusesPiecesThatAreNot();
    House.end();
  }

  private static void is(String text, String want) {
    House h = new House();
    House.due(text, want, Pieces.told(h, h.solve(text), 0));
    House.due("the tape after " + text, 0, h.tapeSize());
  }

  private static void fault(String text, int place) {
    Furnished.fault("solve", text, place);
  }

  /** "perhaps E y or A y, then a U". */
  private static void tellsPerhapsY() {
    is("x=1", "[1=1]");
    is("Eyx=1", "[1=1]");
    is("Ayx=1", "[1=1]");
    is("Eyx=y", "(-,-)");
    is("Ayx=y", "");
    fault("Exx=1", 1);
    fault("Axx=1", 1);
    fault("E", 1);
    fault("Ez", 1);
    fault("EyEyx=1", 2);
    fault("EyAxx=1", 2);
    fault("yx=1", 0);
    fault("(Eyx=y)", 1);
    fault("~Eyx=y", 1);
    fault("Ey", 2);
    fault("x=1&x=2", 3);
    fault("Eyx=1|y=2", 5);
  }

  /** "x (and y, if it was told; otherwise FAULT at it) may stand". */
  private static void takesYIfItWasTold() {
    is("Eyy=1", "(-,-)");
    is("Ayy=1", "");
    is("Eyxy=1", "(-,0)(0,-)");
    fault("y=1", 0);
    fault("x=y", 2);
    fault("x+2y>0", 3);
    fault("xy0=1", 1);
    fault("x=0y", 3);
    fault("(x=1|~y=1)", 6);
    fault("x+y-y=1", 2);
  }

  /** "an END is a number or none (it goes on without end)". */
  private static void goesOnWithoutEnd() {
    is("x<1", "(-,1)");
    is("x<=1", "(-,1]");
    is("x>1", "(1,-)");
    is("x>=1", "[1,-)");
    is("0=0", "(-,-)");
    is("x2>=0", "(-,-)");
    is("x#0", "(-,0)(0,-)");
    is("Eyy2=x", "[0,-)");
    is("Eyy2=-x", "(-,0]");
  }

  /** "and belongs to the PIECE or not". */
  private static void endsThatBelongOrNot() {
    is("(x>1&x<2)", "(1,2)");
    is("(x>=1&x<2)", "[1,2)");
    is("(x>1&x<=2)", "(1,2]");
    is("(x>=1&x<=2)", "[1,2]");
    is("Eyx2+y2<4", "(-2,2)");
    is("Eyx2+y2<=4", "[-2,2]");
    is("Ay(x2+y2>=4)", "(-,-2][2,-)");
    is("Ay(x2+y2>4)", "(-,-2)(2,-)");
    is("Ey(xy=1&x<=2&x>-3)", "(-3,0)(0,2]");
  }

  /** "a single number is a PIECE with both ENDS the same". */
  private static void isASingleNumber() {
    is("x=3", "[3=3]");
    is("x2=4", "[-2=-2][2=2]");
    is("x2<=0", "[0=0]");
    is("x2=2", "[-2=-2][1=1]");
    is("(x=1|x>2)", "[1=1](2,-)");
    is("(x<1|x=2)", "(-,1)[2=2]");
    is("(x<=1&x>=1)", "[1=1]");
    is("Ayxy=0", "[0=0]");
    is("Eyx2+y2<=0", "[0=0]");
    // two fractions with the same whole number below them are not the same
    is("(3x>=1&3x<=2)", "[0,0]");
    is("(3x>1&3x<2)", "(0,0)");
  }

  /** "as few as can be". */
  private static void hasAsFewAsCanBe() {
    is("(x<1|x=1)", "(-,1]");
    is("(x=1|x>1)", "[1,-)");
    is("(x<1|x>=1)", "(-,-)");
    is("(x<=1|x>1)", "(-,-)");
    is("(x<1|x>1)", "(-,1)(1,-)");
    is("(x<1|x=1|x>1)", "(-,-)");
    is("(x>=0&x<1|x>=1&x<2)", "[0,2)");
    is("(x>=0&x<=1|x>=1&x<=2)", "[0,2]");
    is("(x>=0&x<1|x>1&x<=2)", "[0,1)(1,2]");
    is("(x2=2|x2#2)", "(-,-)");
    is("(x>0&(x2=2|x2<2|x2>2))", "(0,-)");
    is("x3>=-8", "[-2,-)");
    is("Eyx+y3=0", "(-,-)");
    is("Ey(y=x3-x)", "(-,-)");
    is("Ey(y2=x&y2=x)", "[0,-)");
    is("Ey(x2+y2<=1|x2-4x+y2<=-3)", "[-1,3]");
    is("Ey(x2+y2<1|x2-4x+y2<-3)", "(-1,1)(1,3)");
  }

  /** No PIECES, where nothing solves it. */
  private static void hasNoneAtAll() {
    is("0=1", "");
    is("x2<0", "");
    is("x<x", "");
    is("(x<1&x>1)", "");
    is("(x<1&x=1)", "");
    is("Eyx2+y2<0", "");
    is("Ayxy=1", "");
  }

  /** The x of all crossings of three times three lines: single numbers, and all that is between. */
  private static void hasMany() {
    // y is -1, 0 or 1; y-x is -10, 0 or 10; y+x is -4, 3 or 16
    String f = "y3-y=0";
    String g = "y3-3xy2+3x2y-x3-100y+100x=0";
    String h = "y3+3xy2+3x2y+x3-15x2-30xy-15y2-28x-28y+192=0";
    TreeSet<Integer> halves = new TreeSet<>();
    for (int u : new int[] {-10, 0, 10}) {
      for (int v : new int[] {-4, 3, 16}) {
        halves.add(v - u);
        for (int y = -1; y <= 1; y++) {
          halves.add(2 * (y - u));
          halves.add(2 * (v - y));
        }
      }
    }
    StringBuilder single = new StringBuilder();
    StringBuilder between = new StringBuilder("(-,");
    for (int half : halves) {
      single.append('[').append(half).append('=').append(half).append(']');
      between.append(half).append(")(").append(half).append(',');
    }
    between.append("-)");
    String all = "(" + f + "&" + g + "|" + f + "&" + h + "|" + g + "&" + h + ")";
    House x = new House();
    int count = x.solve("Ey" + all);
    House.due("so many", halves.size(), count);
    House.due("single numbers", single.toString(), Pieces.told(x, count, 1));
    x = new House();
    count = x.solve("Ay~" + all);
    House.due("so many", halves.size() + 1, count);
    House.due("what is between", between.toString(), Pieces.told(x, count, 1));
  }

  /** "whose PIECES are those of the house now". */
  private static void losesEarlierPieces() {
    Furnished.standsBut("solve without pieces", Furnished.answers("solve", "0=1", 0),
        Furnished.PIECES, ";");
    Furnished.standsBut("solve with one", Furnished.answers("solve", "0=0", 1), Furnished.PIECES,
        " 00000(-1),(-1);");
    Furnished.standsBut("solve with two", Furnished.answers("solve", "(2x=5|x>3)", 2),
        Furnished.PIECES, " 111112,2 100003,(-1);");
  }

  /** Of each piece of (-,-1] [0=0] (2,-) five bits, "(0 for 1 and 3, when it is none.)" */
  private static void tellsFiveThings() {
    House h = Furnished.house();
    House.due("of (-,-1]", "00110", Pieces.flags(h, 0));
    House.due("of [0=0]", "11111", Pieces.flags(h, 1));
    House.due("of (2,-)", "10000", Pieces.flags(h, 2));
    h.solve("(x>=1&x<2)");
    House.due("of [1,2)", "11100", Pieces.flags(h, 0));
    h.solve("0=0");
    House.due("of (-,-)", "00000", Pieces.flags(h, 0));
    for (int what : new int[] {-1, 5, 6, Integer.MIN_VALUE, Integer.MAX_VALUE}) {
      Furnished.refused("piece 0 " + what);
      Furnished.refused("piece 1 " + what);
      Furnished.refused("piece 2 " + what);
    }
  }

  /** "the lower END (which 0) or upper one (1), TOLD at k, ..; refused when it is none". */
  private static void tellsEnds() {
    Furnished.writes("edge 0 1 0", "-1");
    Furnished.writes("edge 1 0 3", "0");
    Furnished.writes("edge 1 1 3", "0");
    Furnished.writes("edge 2 0 3", "16");
    Furnished.refused("edge 0 0 0");
    Furnished.refused("edge 0 0 200");
    Furnished.refused("edge 2 1 0");
    for (int which : new int[] {-1, 2, 3, Integer.MIN_VALUE, Integer.MAX_VALUE}) {
      Furnished.refused("edge 1 " + which + " 0");
    }
    House h = new House();
    h.solve("(x2<2|3x=-7)");
    h.wrote("below 0", "-3", h.x.edge(0, 0, 0));
    h.wrote("below 0 at 1", "-5", h.x.edge(0, 1, 1));
    h.wrote("below 0 at 10", "-1449", h.x.edge(1, 0, 10));
    h.wrote("above 0 at 10", "1448", h.x.edge(1, 1, 10));
  }

  /** A PIECE "that there is not". */
  private static void refusesPiecesThatAreNot() {
    for (int i : new int[] {-1, 3, 4, Integer.MIN_VALUE, Integer.MAX_VALUE}) {
      for (int what = 0; what < 5; what++) {
        Furnished.refused("piece " + i + " " + what);
      }
      Furnished.refused("edge " + i + " 0 0");
      Furnished.refused("edge " + i + " 1 0");
    }
    House h = Furnished.house();
    House.due("the last piece", 1, h.x.piece(2, 0));
    House.due("the last piece", 0, h.x.piece(2, 4));
  }
}
