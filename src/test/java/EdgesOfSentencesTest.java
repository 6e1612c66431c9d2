/** The edges of Part V that its texts name, and of promise 13. */
public final class EdgesOfSentencesTest {
  public static void main(String[] args) {
    compares();
    comparesWithSignsTurned();
    joins();
    takesAU();
    nests20Deep();
    countsWhatIsOpenAlone();
    takesSmallDifferences();
    takesThreeDifferentOnes();
    takesSignsTurned();
    takesMereNumbers();
    tellsOneOrTwoVariables();
    tellsTwoDifferentOnes();
    takesVariablesThatWereTold();
    saysThereIsOne();
    saysForAll();
    changesNothing();
    House.end();
  }

  private static void is(String sentence, int want) {
    Furnished.answers("decide", sentence, want);
  }

  /** A U of x alone, as a sentence and as a solution's text. */
  private static void refused(String u) {
    Furnished.refused("decide", "Ex" + u);
    Furnished.refused("decide", "AyEx" + u);
    Furnished.refused("solve", u);
    Furnished.refused("solve", "Ay" + u);
  }

  private static void fault(String u, int place) {
    Furnished.fault("decide", "Ex" + u, 2 + place);
    Furnished.fault("decide", "AyEx" + u, 4 + place);
    Furnished.fault("solve", u, place);
    Furnished.fault("solve", "Ay" + u, 2 + place);
  }

  private static void fine(String u) {
    for (String ahead : new String[] {"decide Ex", "decide AyEx", "solve ", "solve Ay"}) {
      String[] words = (ahead + u).split(" ");
      int answer = Furnished.house().read(words[0], words[1]);
      House.due(ahead + u + " answers", 1, answer >= 0 ? 1 : answer);
    }
  }

  /** "REL: < <= = # >= >". */
  private static void compares() {
    String[] rels = {"<", "<=", "=", "#", ">=", ">"};
    int[] less = {1, 1, 0, 1, 0, 0};
    int[] same = {0, 1, 1, 0, 1, 0};
    int[] more = {0, 0, 0, 1, 1, 1};
    for (int i = 0; i < rels.length; i++) {
      is("Ex1" + rels[i] + "2", less[i]);
      is("Ax2" + rels[i] + "2", same[i]);
      is("Ex2" + rels[i] + "1", more[i]);
      is("Ex(x=0&x" + rels[i] + "1)", less[i]);
      is("Ex(x=1&x" + rels[i] + "1)", same[i]);
      is("Ex(x=2&x" + rels[i] + "1)", more[i]);
    }
    fault("x=<1", 2);
    fault("x=>1", 2);
    fault("x==1", 2);
    fault("x<>1", 2);
    fault("x#=1", 2);
    fault("x>==1", 3);
    fault("x!1", 1);
    fault("x1", 2);
  }

  /** Where a polynomial with all signs turned, in the place of another one, is compared with 0. */
  private static void comparesWithSignsTurned() {
    String[][] rows = {
      {"<", "(1,-)"}, {"<=", "[1,-)"}, {"=", "[1=1]"}, {"#", "(-,1)(1,-)"}, {">=", "(-,1]"},
      {">", "(-,1)"},
    };
    for (String ahead : new String[] {"", "x=5&", "x=5&x=7&"}) {
      for (String[] row : rows) {
        House h = new House();
        int count = h.solve("(" + ahead + "x=1&0=1|1-x" + row[0] + "0)");
        House.due(ahead + " and 1-x" + row[0] + "0", row[1], Pieces.told(h, count, 0));
        h = new House();
        count = h.solve("(" + ahead + "1=x&0=1|1-x" + row[0] + "0)");
        House.due(ahead + " and the same one", row[1], Pieces.told(h, count, 0));
      }
    }
  }

  /** "FORMULA: T {'|' T}; T: U {'&' U}". */
  private static void joins() {
    is("Ex(x=1|x=2&x=3)", 1);
    is("Ex(x=3&x=2|x=1)", 1);
    is("Ex((x=1|x=2)&x=3)", 0);
    is("Ex(x=3&(x=2|x=1))", 0);
    is("Ex(x=1&x=1&x=1&x=1)", 1);
    is("Ex(x=1&x=1&x=1&x=2)", 0);
    is("Ax(x<1|x=1|x>1)", 1);
    is("Ex(~x=1&x=1)", 0);
    is("Ax~(x=1&x=2)", 1);
    is("Ex(0=0|1=0&1=0)", 1);
    is("Ex(1=0&1=0|0=0)", 1);
    is("Ex(1=0&0=0|1=0)", 0);
  }

  /** "then a U (so | and & stand in brackets)". */
  private static void takesAU() {
    fine("x=1");
    fine("~x=1");
    fine("(x=1&x=2)");
    fine("~(x=1|x=2)");
    fault("x=1&x=2", 3);
    fault("x=1|x=2", 3);
    fault("~x=1|x=2", 4);
    fault("(x=1)&x=2", 5);
    fault("(x=1))", 5);
    fault("()", 1);
    fault("(x=1", 4);
    fault("(x=1&)", 5);
    fault("(x=1||x=2)", 5);
    fault("(&x=1)", 1);
    fault("((x)=1)", 3);
    fault("(x)=1", 2);
    fault("~~", 2);
    fault("x~=1", 1);
    fault("x=~1", 2);
    fault("x", 1);
    fault("x;1", 1);
  }

  /** "~ and ( stand at most 20 deep in one another (FAULT at the next one)". */
  private static void nests20Deep() {
    String open = "~(".repeat(10);
    String shut = ")".repeat(10);
    fine("~".repeat(20) + "x=1");
    fine("(".repeat(20) + "x=1" + ")".repeat(20));
    fine(open + "x=1" + shut);
    fine("(" + "~".repeat(19) + "x=1)");
    fine("~".repeat(19) + "(x=1)");
    fault("~".repeat(21) + "x=1", 20);
    fault("(".repeat(21) + "x=1" + ")".repeat(21), 20);
    fault(open + "~x=1" + shut, 20);
    fault(open + "(x=1)" + shut, 20);
    fault("(" + "~".repeat(20) + "x=1)", 20);
    fault("~".repeat(20) + "(x=1)", 20);
    fault("~".repeat(100), 20);
    fault("(".repeat(21), 20);
    fault("(".repeat(20), 20);
    // it comes ahead of what is refused
    fault("(x4=1|" + "~".repeat(20) + "x=1)", 25);
    is("Ex" + "~".repeat(19) + "0=0", 0);
    is("Ex" + "~".repeat(20) + "0=0", 1);
  }

  /** "in one another": what has ended, or stands beside, does not count. */
  private static void countsWhatIsOpenAlone() {
    String deep = "(".repeat(19) + "x=1" + ")".repeat(19);
    String nots = "~".repeat(19) + "x=1";
    fine("(" + deep + "&" + deep + "|" + deep + ")");
    fine("(" + nots + "&" + nots + "|" + nots + ")");
    fine("(" + deep + "|" + nots + "|~(" + "~".repeat(17) + "x=1))");
    fault("(" + deep + "|" + nots + "|~(" + "~".repeat(18) + "x=1))", 1 + 41 + 1 + 22 + 3 + 17);
    fine("(" + "~x=1&".repeat(50) + "x=1)");
    fine("(" + "(x=1)&".repeat(50) + "x=1)");
    fine("(" + "~(~x=1)|".repeat(40) + "x=1)");
    fault("(" + deep + "&(" + deep + "))", 1 + 41 + 1 + 19);
    fault("(" + nots + "&~" + nots + ")", 1 + 22 + 1 + 19);
    fault("(x=1&(x=2|(x=3&" + "~".repeat(18) + "x=1)))", 15 + 17);
    fine("(x=1&(x=2|(x=3&" + "~".repeat(17) + "x=1)))");
  }

  /** "The difference of the two POLYS .. must be SMALL". */
  private static void takesSmallDifferences() {
    fine("x3=1");
    fine("200x3-200>=0");
    fine("x=-200");
    fine("x=200");
    fine("-200x=1");
    fine("x4=x4+x");
    fine("x8-x2<x8");
    fine("150x=-50x");
    fine("300x=100x");
    fine("201=1");
    fine("999999=999999");
    fine("x+300=500");
    refused("x4=1");
    refused("1=x4");
    refused("x=201");
    refused("x=-201");
    refused("201x=0");
    refused("0=201x");
    refused("-201x3>1");
    refused("150x=-51x");
    refused("100x=-101x");
    refused("x+300=501");
    refused("(x=1|x4=1)");
    refused("~(x4=1&x=1)");
    Furnished.answers("decide", "ExEyx2y=xy2", 1);
    Furnished.refused("decide", "ExEyx2y2=1");
    Furnished.refused("decide", "ExEyx3y=1");
    Furnished.refused("solve", "Eyxy3=1");
  }

  /** "at most 3 different ones may be in a text that are not mere numbers". */
  private static void takesThreeDifferentOnes() {
    fine("(x=1|x=2|x=3)");
    fine("(x=1|x=2|x=3|x=1|x=2|x=3|x=3)");
    fine("(x=1|x=2|x=3|x+1=2|0=2-x|2x=x+3)");
    fine("(x=1|2x=2|3x=3)");
    fine("(x=1|x2=1|x3=1)");
    refused("(x=1|x=2|x=3|x=4)");
    refused("(x=1&x=2&x=3&x=4)");
    refused("(x=1|x=2|x=3|x=0)");
    refused("(x=1|x=2|x=3|2x=2)");
    refused("(x=1|2x=2|3x=3|4x=4)");
    refused("(x=1|x=2|x=3|x2=1)");
    refused("(x=1|(x=2|(x=3|~~x=4)))");
    refused("(x=1|x=2|x=3|x=4|x=5|x=6)");
    Furnished.answers("decide", "ExEy(x=1&y=1&x=y)", 1);
    Furnished.refused("decide", "ExEy(x=1&y=1&x=y&x+y=2)");
    Furnished.refused("solve", "Ey(x=1&y=1&x=y&x+y=2)");
  }

  /** "one that is another one with all signs turned counts as the same". */
  private static void takesSignsTurned() {
    fine("(x=1|x=2|x=3|1=x|2=x|3=x)");
    fine("(x-1<0|x2-2>0|x3-3=0|1-x<0|2-x2>0|3-x3=0)");
    fine("(-x3+x2-x+1<0|x3-x2+x-1<0|x=1|x=2)");
    // not all of them turned
    refused("(x-1=0|x+1=0|x=2|x=3)");
    refused("(-x-1=0|x-1=0|x=2|x=3)");
    refused("(x2-x=1|x2+x=1|x=2|x2-x=-1)");
    is("Ex(x-1<0&1-x<0)", 0);
    is("Ex(x-1<=0&1-x<=0)", 1);
    is("Ax(x-1<=0|1-x<0)", 1);
    is("Ax(x-1<0|1-x<0)", 0);
  }

  /** "that are not mere numbers": these are as many as one likes, but SMALL. */
  private static void takesMereNumbers() {
    fine("(x=1|x=2|x=3|0=0|0=1|0=2|0=3|1<2|7#8)");
    fine("(x=1|x=2|x=3|x=x|x=x+1|x-2>=x)");
    fine("(0=0|0=1|0=2|0=3|0=4)");
    fine("(0=200|0=-200)");
    refused("0=201");
    refused("-1=200");
    refused("(x=1|201=0)");
    is("Exx=x", 1);
    is("Axx<x+1", 1);
    is("Exx>x", 0);
    is("AxEyxy=yx", 1);
  }

  /** "one or two times E or A and a variable, x or y". */
  private static void tellsOneOrTwoVariables() {
    is("Exx=1", 1);
    is("Ayy=1", 0);
    is("ExEyx=y", 1);
    is("EyExx=y", 1);
    is("AxEyx=y", 1);
    is("ExAyx=y", 0);
    Furnished.fault("decide", "x=1", 0);
    Furnished.fault("decide", "(Exx=1)", 0);
    Furnished.fault("decide", "~Exx=1", 0);
    Furnished.fault("decide", "0=0", 0);
    Furnished.fault("decide", "Ezz=1", 1);
    Furnished.fault("decide", "E1=1", 1);
    Furnished.fault("decide", "EEx=1", 1);
    Furnished.fault("decide", "ex=1", 0);
    Furnished.fault("decide", "ExEyExx=1", 4);
    Furnished.fault("decide", "ExEyAyx=1", 4);
    Furnished.fault("decide", "Ex(Eyx=y)", 3);
    Furnished.fault("decide", "Ex~Eyx=y", 3);
    Furnished.fault("decide", "Exx=1Ey", 5);
  }

  /** "two different ones if two". */
  private static void tellsTwoDifferentOnes() {
    Furnished.fault("decide", "ExExx=1", 3);
    Furnished.fault("decide", "ExAxx=1", 3);
    Furnished.fault("decide", "AyEyy=1", 3);
    Furnished.fault("decide", "EyAyx=1", 3);
    Furnished.fault("decide", "ExEx", 3);
    Furnished.fault("decide", "ExE", 3);
    Furnished.fault("decide", "ExEz", 3);
  }

  /** "a variable stands in the U only if it was told there: FAULT at its letter". */
  private static void takesVariablesThatWereTold() {
    Furnished.fault("decide", "Exy=1", 2);
    Furnished.fault("decide", "Eyx=1", 2);
    Furnished.fault("decide", "Exx=y", 4);
    Furnished.fault("decide", "Eyy=1-2x", 7);
    Furnished.fault("decide", "Exxy=1", 3);
    Furnished.fault("decide", "Exy0=1", 2);
    Furnished.fault("decide", "Ex0y=0", 3);
    Furnished.fault("decide", "Exy-y=0", 2);
    Furnished.fault("decide", "Ex(x=1|~y=1)", 8);
    Furnished.fault("decide", "Ex(x=1|2y", 8);
    is("Ex1=1", 1);
    is("ExEy1=1", 1);
    is("ExEyx=1", 1);
    is("ExEyy=1", 1);
  }

  /** "E says that there is a real number for which what follows holds". */
  private static void saysThereIsOne() {
    is("Exx2=2", 1);
    is("Exx2=-1", 0);
    is("Exx2<=0", 1);
    is("Exx2<0", 0);
    is("Ex(x>1&x<2)", 1);
    is("Ex(x>1&x<=1)", 0);
    is("Ex(x>=1&x<=1)", 1);
    // between 140/99 and 99/70, whose half the root of 2 is not
    is("Ex(99x>140&70x<99)", 1);
    is("Ex(99x>140&70x<99&x2=2)", 1);
    is("Ex(99x>140&70x<99&2x2#x2+2)", 1);
    is("ExEy(x2+y2=2&x+y=2)", 1);
    is("ExEy(x2+y2<2&x+y=2)", 0);
    is("ExAyxy=0", 1);
    is("ExAyxy=y", 1);
    is("ExAyy2>=x", 1);
    is("ExAyy2<x", 0);
  }

  /** "A that it holds for all". */
  private static void saysForAll() {
    is("Axx2>=0", 1);
    is("Axx2>0", 0);
    is("Axx3-3x+2>=0", 0);
    is("Ax(x<-2|x3-3x+2>=0)", 1);
    is("Ax(x<-2|x3-3x+2>0)", 0);
    is("AxEyxy=1", 0);
    is("AxEy(xy=1|x=0)", 1);
    is("AxEyy2=x", 0);
    is("AxEyy3=x", 1);
    is("AxAyx2+y2>=2xy", 1);
    is("AxAyx2+y2>2xy", 0);
    is("AyAxx2+y2>-1", 1);
  }

  /** What reads a SENTENCE changes nothing but the tape. */
  private static void changesNothing() {
    Furnished.stands("decide", Furnished.answers("decide", "Exx=1", 1));
    Furnished.stands("decide", Furnished.answers("decide", "AxEyx=y2", 0));
    Furnished.stands("decide", Furnished.answers("decide", "Ex0=1", 0));
  }
}
