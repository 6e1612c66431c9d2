/** Promises 10 to 12: points, point and signAtPoint. */
public final class PointsTest {
  public static void main(String[] args) {
    findsPoints();
    ordersPoints();
    tellsPlaces();
    tellsSigns();
    refusesShared();
    refusesAndFaults();
    House.end();
  }

  private static void findsPoints() {
    House h = new House();
    House.due("circle and line", 2, h.points("x2+y2-25;x-3"));
    House.due("circle and tangent", 1, h.points("x2+y2-1;y-1"));
    House.due("circle and line outside", 0, h.points("x2+y2-1;y-2"));
    House.due("two circles", 2, h.points("x2+y2-4;x2+y2-2x-2"));
    House.due("nine", 9, h.points("x3-x;y3-y"));
    House.due("lines that never meet", 0, h.points("y;y-1"));
    House.due("lines upright", 0, h.points("x;x-1"));
    House.due("cusp", 1, h.points("y2-x3;y"));
    House.due("a point alone", 1, h.points("x2+y2;x"));
    House.due("upright in one", 1, h.points("x2y-1;x-2"));
    House.due("that goes up without end", 0, h.points("xy-1;x"));
    House.due("two lines in one", 4, h.points("xy;x2+y2-1"));
    House.due("numbers", 0, h.points("3;5"));
    House.due("a number", 0, h.points("-3;x2y"));
    House.due("0 and a number", 0, h.points("0;5"));
    House.due("a number and 0", 0, h.points("7;x-x"));
  }

  private static void ordersPoints() {
    House h = new House();
    h.points("x3-x;y3-y");
    for (int i = 0; i < 9; i++) {
      String x = i < 3 ? "-1" : i < 6 ? "0" : "1";
      String y = i % 3 == 0 ? "-1" : i % 3 == 1 ? "0" : "1";
      h.wrote("x of " + i, x, h.x.point(i, 0, 0));
      h.wrote("y of " + i, y, h.x.point(i, 1, 0));
    }
  }

  private static void tellsPlaces() {
    House h = new House();
    House.due("parabolas", 2, h.points("y-x2;x-y2"));
    h.wrote("x of 1", "1024", h.x.point(1, 0, 10));
    House.due("circle and diagonal", 2, h.points("x2+y2-1;x-y"));
    h.wrote("x of 0", "-1", h.x.point(0, 0, 0));
    h.wrote("y of 1 at 30", "759250124", h.x.point(1, 1, 30));
    House.due("ellipse and cubic", 2, h.points("x2+2y2-3;y-x3"));
    h.wrote("x of 1", "1", h.x.point(1, 0, 0));
    h.wrote("y of 1 at 200", "1606938044258990275541962092341162602522202993782792835301376", h.x.point(1, 1, 200));
    House.due("two heights above one x", 4, h.points("x2-2;y2-x2-1"));
    h.wrote("x of 1", "-2", h.x.point(1, 0, 0));
    h.wrote("y of 1", "1773", h.x.point(1, 1, 10));
  }

  private static void tellsSigns() {
    House h = new House();
    h.points("x2+y2-1;x-y");
    House.due("0 there", 1, h.x.signAtPoint(0, h.feed("x2-y2")));
    House.due("0 there by both", 1, h.x.signAtPoint(1, h.feed("2x2-1")));
    House.due("above", 2, h.x.signAtPoint(1, h.feed("x+y-1")));
    House.due("below", 0, h.x.signAtPoint(0, h.feed("x3")));
    House.due("a number", 0, h.x.signAtPoint(0, h.feed("-1")));
    House.due("0 everywhere", 1, h.x.signAtPoint(0, h.feed("0")));
    House.due("very close", 0, h.x.signAtPoint(1, h.feed("140x-99")));
    House.due("very close", 2, h.x.signAtPoint(1, h.feed("99x-70")));
    h.points("x2-2;y2-3");
    House.due("of one but not of its neighbour", 2, h.x.signAtPoint(3, h.feed("xy-2")));
    House.due("of one but not of its neighbour", 0, h.x.signAtPoint(2, h.feed("xy-2")));
    House.due("0 at one", 1, h.x.signAtPoint(2, h.feed("x2-2")));
  }

  private static void refused(String text) {
    House h = new House();
    House.due("one point", 1, h.points("x;y"));
    int n = h.feed(text);
    House.due("points of " + text, -1, h.x.points(n));
    House.due("the tape then", (n + 19) / 20 * 20, h.tapeSize());
    h.wrote("the point then", "0", h.x.point(0, 1, 5));
  }

  private static void refusesShared() {
    refused("x;x");
    refused("xy;x2");
    refused("xy;y2");
    refused("x2-y2;x2+2xy+y2");
    refused("x3+xy2-x;x2y+y3-y");
    refused("2x+2;3x2-3");
    refused("0;0");
    refused("0;x");
    refused("y3-1;x-x");
  }

  private static void refusesAndFaults() {
    refused("x4;y");
    refused("x;xy3");
    refused("201x;y");
    refused("x;y-201");
    refused("x2;100y+101y");
    House h = new House();
    House.due("200 is SMALL", 1, h.points("200x-200;y+100y-1y-200+y2y-y3"));
    House.due("what it means is SMALL", 1, h.points("x8+x-x8;300y-299y"));
    House.due("fault", -4, h.points("x;"));
    House.due("fault", -3, h.points("x"));
    House.due("fault ahead of refused", -5, h.points("x4;"));
    House.due("the points stay", 1, h.x.point(0, 0, 0));
    House.due("no such point", -1, h.x.point(1, 0, 0));
    House.due("no such point", -1, h.x.point(-1, 0, 0));
    House.due("no such coordinate", -1, h.x.point(0, 2, 0));
    House.due("no such coordinate", -1, h.x.point(0, -1, 0));
    House.due("k", -1, h.x.point(0, 0, 201));
    House.due("k", -1, h.x.point(0, 0, -1));
    House.due("sign, fault", -2, h.x.signAtPoint(0, h.feed("+x")));
    House.due("sign, not SMALL", -1, h.x.signAtPoint(0, h.feed("x4")));
    House.due("sign, the tape stays", 20, h.tapeSize());
    h = new House();
    House.due("sign at no point, ahead of the text", -1, h.x.signAtPoint(0, h.feed("?")));
  }
}
