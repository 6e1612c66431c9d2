/** Promise 4: tell, and with it how polynomials are read and written. */
public final class TellTest {
  public static void main(String[] args) {
    readsAndWrites();
    findsFaults();
    derives();
    makesPrimitive();
    multiplies();
    findsResultants();
    findsDivisors();
    chains();
    findsDeterminants();
    refuses();
    House.end();
  }

  private static void readsAndWrites() {
    House h = new House();
    h.tell(0, "0", "0");
    h.tell(0, "-000000", "0");
    h.tell(0, "x-x", "0");
    h.tell(0, "000001", "1");
    h.tell(0, "-1", "-1");
    h.tell(0, "1x1y1", "xy");
    h.tell(0, "x0", "1");
    h.tell(0, "-x0y0", "-1");
    h.tell(0, "xxyxy", "x3y2");
    h.tell(0, "x2x3y3", "x5y3");
    h.tell(0, "y8+x8", "x8+y8");
    h.tell(0, "x8x0", "x8");
    h.tell(0, "0x8", "0");
    h.tell(0, "y-x+1-xy+x2-2y2", "x2-xy-x-2y2+y+1");
    h.tell(0, "999999+999999+1", "1999999");
    h.tell(0, "2x+x2-3x-x2", "-x");
    h.tell(0, "3x-3x+5y", "5y");
  }

  private static void fault(String text, int place) {
    House h = new House();
    House.due("tell 0 of " + text, -2 - place, h.x.tell(0, h.feed(text)));
    House.due("the tape after " + text, 0, h.tapeSize());
  }

  private static void findsFaults() {
    fault("", 0);
    fault("-", 1);
    fault("+x", 0);
    fault("--x", 1);
    fault("x+", 2);
    fault("x-+1", 2);
    fault("1234567", 6);
    fault("x9", 0);
    fault("x8x", 2);
    fault("x8y", 2);
    fault("3x4y5", 3);
    fault("0x9", 1);
    fault("x22", 2);
    fault("x 2", 1);
    fault("z", 0);
    fault("x+1;x", 3);
    fault("X", 0);
    fault("2*x", 1);
    fault("x\0", 1);
    fault("\u00ff", 0);
    House h = new House();
    House.due("two without the second", -4, h.x.tell(4, h.feed("x;")));
    House.due("two without ;", -3, h.x.tell(4, h.feed("x")));
    House.due("three", -5, h.x.tell(4, h.feed("x;x;x")));
    House.due("a fault ahead of what is refused", -8, h.x.tell(6, h.feed("y;x+x+z")));
  }

  private static void derives() {
    House h = new House();
    h.tell(1, "x8-3x2y+y5", "8x7-6xy");
    h.tell(2, "x8-3x2y+y5", "-3x2+5y4");
    h.tell(1, "y", "0");
    h.tell(2, "7", "0");
  }

  private static void makesPrimitive() {
    House h = new House();
    h.tell(3, "-6x+9y", "2x-3y");
    h.tell(3, "6y-4", "3y-2");
    h.tell(3, "-5", "1");
    h.tell(3, "0", "0");
    h.tell(3, "4x2-2xy2-8y", "2x2-xy2-4y");
    h.tell(3, "-xy2+xy3", "xy3-xy2");
    h.tell(3, "-x+x2y0-x2", "x");
  }

  private static void multiplies() {
    House h = new House();
    h.tell(4, "x8+y8;x8-y8", "x16-y16");
    h.tell(4, "999999x8;999999y8", "999998000001x8y8");
    h.tell(4, "x+y;0", "0");
    h.tell(4, "x-1;x+1", "x2-1");
  }

  private static void findsResultants() {
    House h = new House();
    h.tell(5, "y2-x;y-1", "-x+1");
    h.tell(5, "y-1;y2-x", "-x+1");
    h.tell(5, "y-x;y+x", "2x");
    h.tell(5, "y+x;y-x", "-2x");
    h.tell(5, "x;y3+1", "x3");
    h.tell(5, "y3+1;x-2", "x3-6x2+12x-8");
    h.tell(5, "x;x+1", "1");
    h.tell(5, "0;y4", "0");
    h.tell(5, "5;0", "0");
    h.tell(5, "0;0", "0");
    h.tell(5, "y4+x4;y4-x4", "16x16");
    h.tell(5, "xy-1;y2+x", "x3+1");
    h.tell(5, "2y2+3y+x;4y+3", "16x-18");
    h.tell(5, "x4y4-1;x4y4+1", "16x16");
    h.tell(5, "y4-x8;y4+y-x8", "-x8");
    House.due("y5", -1, h.x.tell(5, h.feed("y5;x")));
    h = new House();
    House.due("0 and y5", -1, h.x.tell(5, h.feed("0;y5")));
    h = new House();
    House.due("y5 and 0", -1, h.x.tell(5, h.feed("y5;0")));
    h = new House();
    h.tell(5, "y5-y5+y;y-3", "-3");
  }

  private static void findsDivisors() {
    House h = new House();
    h.tell(6, "x2-1;x3-1", "x-1");
    h.tell(6, "4x;6x2", "x");
    h.tell(6, "4;6", "1");
    h.tell(6, "0;0", "0");
    h.tell(6, "0;-4x+2", "2x-1");
    h.tell(6, "-9;0", "1");
    h.tell(6, "x+y-y;x2", "x");
    h.tell(6, "x8-2x4+1;x6-x4-x2+1", "x6-x4-x2+1");
  }

  private static void chains() {
    House h = new House();
    h.tell(7, "x2+1;x-1", "x2-2x+2");
    h.tell(7, "x8;x2", "x16");
    h.tell(7, "x2;x8+1", "x16+2x8+1");
    h.tell(7, "x3-2x;0", "0");
    h.tell(7, "5;x8", "5");
    h.tell(7, "0;x8", "0");
    h.tell(7, "x8+x;7", "5764808");
    h.tell(7, "x8;999999", "999992000027999944000069999944000027999992000001");
    h.tell(7, "x+y-y;x+1", "x+1");
  }

  private static void findsDeterminants() {
    House h = new House();
    h.tell(8, "x2+y2;xy", "2x2-2y2");
    h.tell(8, "x;y", "1");
    h.tell(8, "y;x", "-1");
    h.tell(8, "x;x", "0");
  }

  private static void refused(int what, String text) {
    House h = new House();
    h.tell(0, "7", "7");
    int n = h.feed(text);
    House.due("tell " + what + " of " + text, -1, h.x.tell(what, n));
    House.due("the OUT then", '7', h.x.out(0));
    House.due("the tape then", (n + 19) / 20 * 20, h.tapeSize());
  }

  private static void refuses() {
    refused(6, "x;y");
    refused(6, "xy;x");
    refused(7, "x;y");
    refused(7, "y;x");
    refused(7, "x3;x6");
    refused(7, "x8;x3");
    refused(5, "y5;y");
    refused(9, "x");
    refused(-1, "x");
    refused(9, "?");
    House h = new House();
    h.feed("x");
    House.due("length below 0", -1, h.x.tell(0, -1));
    House.due("length above the tape", -1, h.x.tell(0, 21));
  }
}
