/** Promises 5 to 9: roots, times, root, signAt and below. */
public final class RootsTest {
  public static void main(String[] args) {
    findsRoots();
    tellsTimes();
    tellsRoots();
    tellsFarAndNear();
    tellsSigns();
    countsBelow();
    refusesAndFaults();
    House.end();
  }

  private static void findsRoots() {
    House h = new House();
    House.due("constant", 0, h.roots("5"));
    House.due("none real", 0, h.roots("x2+1"));
    House.due("one", 1, h.roots("x"));
    House.due("double", 1, h.roots("x2"));
    House.due("all eight", 8, h.roots("128x8-256x6+160x4-32x2+1"));
    House.due("x4-10x2+1", 4, h.roots("x4-10x2+1"));
    House.due("one of degree 7", 1, h.roots("x7-x-1"));
    House.due("of what it means", 1, h.roots("x8+x-x8-1"));
  }

  private static void tellsTimes() {
    House h = new House();
    // (x-1)^3 (x+2)^2 (x^2-2)
    House.due("with powers", 4, h.roots("x7+x6-7x5-3x4+18x3-2x2-16x+8"));
    House.due("times of -2", 2, h.x.times(0));
    House.due("times of less the root of 2", 1, h.x.times(1));
    House.due("times of 1", 3, h.x.times(2));
    House.due("times of the root of 2", 1, h.x.times(3));
    House.due("x5-3x4+3x3-x2", 2, h.roots("x5-3x4+3x3-x2"));
    House.due("times of 0", 2, h.x.times(0));
    House.due("times of 1", 3, h.x.times(1));
    House.due("times of 2", -1, h.x.times(2));
    House.due("times of -1", -1, h.x.times(-1));
    House.due("x4-4x2+4", 2, h.roots("x4-4x2+4"));
    House.due("times of both", 2, h.x.times(0));
    House.due("x8", 1, h.roots("x8"));
    House.due("times of 0", 8, h.x.times(0));
  }

  private static void tellsRoots() {
    House h = new House();
    h.roots("x2-2");
    h.wrote("root of 2, floor", "1", h.x.root(1, 0));
    h.wrote("root of 2 below 0, floor", "-2", h.x.root(0, 0));
    h.wrote("root of 2", "1448", h.x.root(1, 10));
    h.wrote("root of 2 at 200", "2272553576084360916141657902949647315979581976043234410928602",
        h.x.root(1, 200));
    h.wrote("root of 2 again", "2", h.x.root(1, 1));
    h.roots("4x2-4x+1");
    h.wrote("a half", "0", h.x.root(0, 0));
    h.wrote("a half at 1", "1", h.x.root(0, 1));
    h.wrote("a half at 3", "4", h.x.root(0, 3));
    h.roots("2x+1");
    h.wrote("less a half", "-1", h.x.root(0, 0));
    h.roots("3x+1");
    h.wrote("less a third at 2", "-2", h.x.root(0, 2));
    h.roots("x");
    h.wrote("0 at 200", "0", h.x.root(0, 200));
  }

  private static void tellsFarAndNear() {
    House h = new House();
    House.due("far", 2, h.roots("x2-999999x-999999x-1"));
    h.wrote("far", "1999998", h.x.root(1, 0));
    h.wrote("near 0", "-1", h.x.root(0, 0));
    h.wrote("near 0 at 40", "-549757", h.x.root(0, 40));
    // two roots near 1/1000 that are some 10^-15 apart
    House.due("close", 4, h.roots("x8-500000x2-500000x2+2000x-1"));
    h.wrote("the lowest one", "-11", h.x.root(0, 0));
    h.wrote("the lower one", "1152921504605694", h.x.root(1, 60));
    h.wrote("the higher one", "1152921504607999", h.x.root(2, 60));
    h.wrote("the highest one", "12378987718661205249999236215", h.x.root(3, 90));
  }

  private static void tellsSigns() {
    House h = new House();
    h.roots("x2-2");
    House.due("above", 2, h.x.signAt(1, h.feed("x-1")));
    House.due("below", 0, h.x.signAt(0, h.feed("x-1")));
    House.due("0 there", 1, h.x.signAt(0, h.feed("x4-4")));
    House.due("0 everywhere", 1, h.x.signAt(0, h.feed("0")));
    House.due("a number", 0, h.x.signAt(0, h.feed("-3")));
    House.due("very close", 0, h.x.signAt(1, h.feed("470832x-665857")));
    House.due("very close", 2, h.x.signAt(1, h.feed("195025x-275807")));
    h.roots("x4-5x2+6");
    House.due("of another factor", 1, h.x.signAt(0, h.feed("x2-3")));
    House.due("of another factor", 0, h.x.signAt(1, h.feed("x2-3")));
  }

  private static void countsBelow() {
    House h = new House();
    h.roots("x3-x");
    House.due("its own", 0, h.x.below(0, h.feed("x3-x")));
    House.due("its own", 2, h.x.below(2, h.feed("x3-x")));
    House.due("different ones alone", 1, h.x.below(1, h.feed("x2+2x+1")));
    House.due("none", 0, h.x.below(1, h.feed("7")));
    House.due("some", 1, h.x.below(2, h.feed("x2-2")));
    h.roots("x2-2");
    House.due("of another field", 3, h.x.below(1, h.feed("x4-10x2+1")));
  }

  private static void refusesAndFaults() {
    House h = new House();
    House.due("roots", 2, h.roots("x2-3"));
    House.due("0", -1, h.roots("x-x"));
    h = new House();
    h.roots("x2-3");
    House.due("y", -4, h.roots("x+y"));
    House.due("y0", -2, h.roots("y0"));
    House.due("still there", 1, h.x.times(1));
    House.due("signAt, y", -3, h.x.signAt(0, h.feed("2y")));
    House.due("below, y", -4, h.x.below(0, h.feed("x-y")));
    House.due("k above 200", -1, h.x.root(0, 201));
    House.due("k below 0", -1, h.x.root(0, -1));
    House.due("no such root", -1, h.x.root(2, 0));
    House.due("no such root", -1, h.x.root(-1, 0));
    House.due("signAt no root, ahead of the text", -1, h.x.signAt(2, h.feed("?")));
    House.due("the tape stays", 20, h.tapeSize());
    h = new House();
    h.roots("x2-3");
    House.due("below no root", -1, h.x.below(-1, h.feed("x")));
    h = new House();
    h.roots("x2-3");
    House.due("below of 0", -1, h.x.below(0, h.feed("0")));
    House.due("the tape stays", 20, h.tapeSize());
    House.due("the roots stay", 1, h.x.times(0));
  }
}
