/** Promises 14 to 16: solve, piece and edge. */
public final class SolutionsTest {
  public static void main(String[] args) {
    solvesInX();
    solvesWithY();
    tellsEdges();
    refusesAndFaults();
    House.end();
  }

  private static void is(String text, String want) {
    House h = new House();
    House.due(text, want, Pieces.told(h, h.solve(text), 0));
  }

  private static void solvesInX() {
    is("x>1", "(1,-)");
    is("x>=1", "[1,-)");
    is("x<=-1", "(-,-1]");
    is("x=3", "[3=3]");
    is("x#3", "(-,3)(3,-)");
    is("0=0", "(-,-)");
    is("0=1", "");
    is("x2<9", "(-3,3)");
    is("x2>=9", "(-,-3][3,-)");
    is("x2<0", "");
    is("x2<=0", "[0=0]");
    is("x2>0", "(-,0)(0,-)");
    is("x3=4x", "[-2=-2][0=0][2=2]");
    is("(x<1|x=1)", "(-,1]");
    is("(x<1|x>=1)", "(-,-)");
    is("(x<1|x>1)", "(-,1)(1,-)");
    is("(x>1&x<=2|x=5)", "(1,2][5=5]");
    is("(x>=0&x<3|x>3&x<4|x=3)", "[0,4)");
    is("~x2=4", "(-,-2)(-2,2)(2,-)");
    is("(x2=4|x3-x>0)", "[-2=-2](-1,0)(1,-)");
    is("x2<2", "(-2,1)");
  }

  private static void solvesWithY() {
    is("Eyx2+y2<=4", "[-2,2]");
    is("Eyx2+y2<4", "(-2,2)");
    is("Ayx2+y2>4", "(-,-2)(2,-)");
    is("Ayx2+y2>=4", "(-,-2][2,-)");
    is("Eyxy=1", "(-,0)(0,-)");
    is("Ayxy=0", "[0=0]");
    is("Eyy2=x", "[0,-)");
    is("Eyy2=x3-x", "[-1,0][1,-)");
    is("Ey(x2+y2=4&x+y=2)", "[0=0][2=2]");
    is("Ay(y2>=x|y>0)", "(-,0]");
    is("Eyxy2+y+1=0", "(-,0]");
    is("Eyxy2+y+1<0", "(-,0)");
    is("Ey(y2=0&x>1)", "(1,-)");
    is("Eyx>1", "(1,-)");
    is("Ayy2>=0", "(-,-)");
    is("Eyy2<0", "");
    is("Ey(y=x2&x=y2)", "[0=0][1=1]");
    is("Ey(x2-y2=0&x2+xy#0)", "(-,0)(0,-)");
  }

  private static void tellsEdges() {
    House h = new House();
    House.due("x2<2", 1, h.solve("x2<2"));
    h.wrote("lower", "-1449", h.x.edge(0, 0, 10));
    h.wrote("upper", "1448", h.x.edge(0, 1, 10));
    h.wrote("upper at 200", "2272553576084360916141657902949647315979581976043234410928602",
        h.x.edge(0, 1, 200));
    House.due("a number", 1, h.x.piece(0, 0));
    House.due("does not belong", 0, h.x.piece(0, 1));
    House.due("not the same", 0, h.x.piece(0, 4));
    House.due("other text", 1, h.decide("Exx=5"));
    h.wrote("the pieces stay", "1", h.x.edge(0, 1, 0));
    House.due("x>0", 1, h.solve("x>0"));
    House.due("no upper end", 0, h.x.piece(0, 2));
    House.due("so it does not belong", 0, h.x.piece(0, 3));
    House.due("nor is it told", -1, h.x.edge(0, 1, 0));
    House.due("0=0", 1, h.solve("0=0"));
    House.due("none is not the same number", 0, h.x.piece(0, 4));
  }

  private static void refusesAndFaults() {
    House h = new House();
    House.due("x=1", 1, h.solve("x=1"));
    House.due("y", -2, h.solve("y=1"));
    House.due("y behind", -4, h.solve("x=y"));
    House.due("Ex", -3, h.solve("Exx=1"));
    House.due("Ey alone", -4, h.solve("Ey"));
    House.due("two quantifiers", -4, h.solve("EyAyy=1"));
    House.due("& outside", -5, h.solve("x=1&x=2"));
    House.due("nothing", -2, h.x.solve(0));
    House.due("the pieces stay", 1, h.x.piece(0, 4));
    House.due("no such piece", -1, h.x.piece(1, 0));
    House.due("no such piece", -1, h.x.piece(-1, 0));
    House.due("no such what", -1, h.x.piece(0, 5));
    House.due("no such what", -1, h.x.piece(0, -1));
    House.due("no such which", -1, h.x.edge(0, 2, 0));
    House.due("no such which", -1, h.x.edge(0, -1, 0));
    House.due("no such edge", -1, h.x.edge(1, 0, 0));
    House.due("k", -1, h.x.edge(0, 0, 201));
    House.due("k", -1, h.x.edge(0, 0, -1));
    House.due("not SMALL", -1, h.solve("x4=1"));
    House.due("the tape stays", 20, h.tapeSize());
    h = new House();
    House.due("four", -1, h.solve("(x=1|x=2|x=3|x=4)"));
    House.due("the tape stays", 20, h.tapeSize());
  }
}
