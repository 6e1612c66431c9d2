/** Promises 1 to 3: a new object, feed and out. */
public final class TapeTest {
  public static void main(String[] args) {
    isEmptyWhenNew();
    feedsTwenty();
    readsTheFirst();
    keepsTheTapeWhenRefused();
    tellsBytes();
    House.end();
  }

  private static void isEmptyWhenNew() {
    RealHouse x = new RealHouse();
    House.due("out(-1)", 0, x.out(-1));
    House.due("out(0)", -1, x.out(0));
    House.due("out(-2)", -1, x.out(-2));
    House.due("times", -1, x.times(0));
    House.due("root", -1, x.root(0, 0));
    House.due("point", -1, x.point(0, 0, 0));
    House.due("piece", -1, x.piece(0, 0));
    House.due("edge", -1, x.edge(0, 0, 0));
    House.due("factor", -1, x.factor(0));
    House.due("power", -1, x.power(0));
    House.due("hold", -1, x.hold(0, 0));
    House.due("least", -1, x.least(0));
    House.due("number", -1, x.number(0, 0));
    House.due("compare", -1, x.compare(0, 0));
    House.due("reckon", -1, x.reckon(0, 0, 0, 0));
    House.due("signAt", -1, x.signAt(0, 0));
    House.due("below", -1, x.below(0, 0));
    House.due("signAtPoint", -1, x.signAtPoint(0, 0));
    House.due("roots of more than there is", -1, x.roots(1));
    House.due("roots of less than nothing", -1, x.roots(-1));
    House.due("roots of nothing", -2, x.roots(0));
  }

  private static void feedsTwenty() {
    RealHouse x = new RealHouse();
    for (int i = 1; i <= 20; i++) {
      House.due("feed " + i, 20 * i, x.feed(i, -i, 0, Integer.MIN_VALUE, Integer.MAX_VALUE));
    }
    House.due("feed when full", -1, x.feed(0, 0, 0, 0, 0));
    House.due("text of 401", -1, x.tell(0, 401));
    House.due("text of 400", -2, x.tell(0, 400));
    House.due("feed after reading", 20, x.feed(0, 0, 0, 0, 0));
  }

  private static void readsTheFirst() {
    House h = new House();
    h.feed("x+1y");
    h.wrote("tell of the first 3", "x+1", h.x.tell(0, 3));
    House.due("the tape is empty then", 0, h.tapeSize());
    h = new House();
    h.feed("x+");
    House.due("fault", -4, h.x.tell(0, 2));
    House.due("empty after a fault", 0, h.tapeSize());
    h = new House();
    h.feed("12345678901234567890");
    h.feed("x");
    House.due("fault at the seventh digit", -8, h.x.tell(0, 21));
  }

  private static void keepsTheTapeWhenRefused() {
    House h = new House();
    h.feed("x-x");
    House.due("roots of 0", -1, h.x.roots(3));
    House.due("factors of 0", -1, h.x.factors(3));
    House.due("tell 9", -1, h.x.tell(9, 3));
    House.due("tell -1", -1, h.x.tell(-1, 3));
    House.due("signAt of no root", -1, h.x.signAt(0, 3));
    h.wrote("tell of what was kept", "0", h.x.tell(0, 3));
  }

  private static void tellsBytes() {
    House h = new House();
    h.tell(0, "-12x3y", "-12x3y");
    House.due("out(0)", '-', h.x.out(0));
    House.due("out(5)", 'y', h.x.out(5));
    House.due("out(6)", -1, h.x.out(6));
    House.due("out(-1)", 6, h.x.out(-1));
    House.due("out(least)", -1, h.x.out(Integer.MIN_VALUE));
    h.tell(0, "7", "7");
    House.due("the earlier bytes are gone", -1, h.x.out(1));
    h.feed("x+");
    House.due("fault", -4, h.x.tell(0, 2));
    House.due("a fault leaves the OUT", '7', h.x.out(0));
  }
}
