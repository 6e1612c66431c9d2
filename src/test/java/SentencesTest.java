/** Promise 13: decide. */
public final class SentencesTest {
  public static void main(String[] args) {
    decidesOne();
    decidesTwo();
    joins();
    nests();
    findsFaults();
    refuses();
    House.end();
  }

  private static void is(String sentence, int want) {
    House h = new House();
    House.due(sentence, want, h.decide(sentence));
    House.due("the tape after " + sentence, 0, h.tapeSize());
  }

  private static void decidesOne() {
    is("Exx2=2", 1);
    is("Exx2=-2", 0);
    is("Axx2>=0", 1);
    is("Axx2>0", 0);
    is("Ayy#0", 0);
    is("Eyy3<-200", 1);
    is("Ex0=0", 1);
    is("Ax0<0", 0);
    is("Ey1<=1", 1);
    is("Ax(x<0|x>0|x=0)", 1);
    is("Ex(x2<2&x2>2)", 0);
    is("Ex(x2=2&x3-2x=0)", 1);
    is("Ex(x2=2&x<0&x>-1)", 0);
    is("Ax~x3+x=1", 0);
    is("Ex(99x<70&140x>99)", 0);
  }

  private static void decidesTwo() {
    is("AxEyx<y", 1);
    is("EyAxx<y", 0);
    is("AxEyx=y2", 0);
    is("AyExx=y2", 1);
    is("AxEyx=y3", 1);
    is("ExAyxy=0", 1);
    is("AxAyx2+y2>=2xy", 1);
    is("AxAyx2+y2>2xy", 0);
    is("ExEy(x2+y2=1&x+y=2)", 0);
    is("ExEy(x2+y2=2&x+y=2)", 1);
    is("ExEy(x2+y2<2&x+y=2)", 0);
    is("AyEx(x3+xy=1)", 1);
    is("ExAyx2y+x>=1", 0);
    is("ExAyy2+x>=1", 1);
    is("AxEy(xy=1|x=0)", 1);
    is("AxEyxy=1", 0);
    is("ExAy(y2>=x|y=0)", 1);
    is("EyEx(x2=2&y2=x&y>0)", 1);
    is("AxEyx2+y2=1", 0);
    is("AyAx(x2y-1<=0|y>0&x#0)", 1);
    // both curves have a line in common
    is("ExAy(x2-y2=0|x+y#0)", 1);
    is("ExEy(xy-y=0&x2-1#0)", 1);
  }

  private static void joins() {
    is("Ex(x=1|x=2&x=3)", 1);
    is("Ex((x=1|x=2)&x=3)", 0);
    is("Ex~~x=1", 1);
    is("Ax~~~x=1", 0);
    is("Ex~(x<1|x>1)", 1);
    is("Ex(~x<1&~x>1)", 1);
    is("Ax(x<1|~x<1)", 1);
    is("Ex(x<1&~(x<=1))", 0);
    is("Ex((x=1))", 1);
    is("Ex(x-1<0&1-x<0)", 0);
    is("Ex(x-1<=0&1-x<=0&x#2)", 1);
  }

  private static void nests() {
    is("Ex" + "~".repeat(20) + "x=1", 1);
    is("Ex" + "(".repeat(20) + "x=1" + ")".repeat(20), 1);
    is("Ex" + "~(".repeat(10) + "x=1" + ")".repeat(10), 1);
    is("Ex" + "~".repeat(21) + "x=1", -24);
    is("Ex" + "(".repeat(21) + "x=1" + ")".repeat(21), -24);
    is("Ex(~x=1&" + "~".repeat(19) + "x#1)", 0);
    is("Ex(~x=1&" + "~".repeat(20) + "x#1)", -29);
  }

  private static void findsFaults() {
    is("", -2);
    is("x=1", -2);
    is("E", -3);
    is("Ez", -3);
    is("Ex", -4);
    is("ExEx=1", -5);
    is("ExExx=1", -5);
    is("ExAyEx", -6);
    is("Exy=1", -4);
    is("Eyx=1", -4);
    is("Exx=1+y", -8);
    is("Exx", -5);
    is("Exx=", -6);
    is("Exx=1&x=2", -7);
    is("Exx=1)", -7);
    is("Ex(x=1", -8);
    is("Ex(x=1&)", -9);
    is("Ex(x=1&&x=2)", -9);
    is("Ex()", -5);
    is("Exx==1", -6);
    is("Exx=<1", -6);
    is("Exx>==1", -7);
    is("Exx!1", -5);
    is("Exx<x9", -6);
    is("Exx=1234567", -12);
    is("Ex x=1", -4);
    is("Ex~", -5);
  }

  private static void refused(String sentence) {
    House h = new House();
    int n = h.feed(sentence);
    House.due(sentence, -1, h.x.decide(n));
    House.due("the tape after " + sentence, (n + 19) / 20 * 20, h.tapeSize());
  }

  private static void refuses() {
    refused("Exx4=1");
    refused("Exx=201");
    refused("Ex300<301+300");
    refused("ExEyx2y2=1");
    refused("Ex(x=1|x=2|x=3|x=4)");
    refused("Ex(x=1|2x=2|3x=3|4x=4)");
    is("Ex(x=1|x=2|x=3|1=x|2-x=0|-x+3<0)", 1);
    is("Ex(x=1|x=2|x=3|0=1|5<6)", 1);
    is("Exx4+x=x4+1", 1);
    is("Ex300<301", 1);
    is("Ex(x4=1&)", -10);
    House h = new House();
    h.feed("Exx=1");
    House.due("length", -1, h.x.decide(-1));
    House.due("length", -1, h.x.decide(21));
    House.due("then", 1, h.x.decide(5));
  }
}
