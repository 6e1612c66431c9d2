/**
 * Houses in which everything stands: a text in the OUT, roots, points, pieces, factors, numbers.
 * They show whether a call that is refused, or whose text has a fault, left all as it must.
 */
final class Furnished {
  /** Each root, how often and in 64ths; the points in halves; the pieces' bits and ends. */
  static final String ROOTS = " 1*-91 2*-64 1*90;";
  static final String POINTS = " -4,-2 -2,-4 2,4 4,2;";
  static final String PIECES = " 00110(-1),-1 111110,0 100002,(-1);";
  static final String FACTORS = " x-1^1 x^3;";
  private static final String PORTRAIT = "-7xy+5;" + ROOTS + POINTS + PIECES + FACTORS
      + " x2-2:22 (-1) x3-2:20 x:0 (-1) (-1) (-1) 3x+1:-6";

  private Furnished() {}

  static House house() {
    House h = new House();
    hold(h, 0, "x2-2", 1);
    hold(h, 2, "x3-2", 0);
    hold(h, 3, "x", 0);
    hold(h, 7, "3x+1", 0);
    h.roots("x4+2x3-x2-4x-2");
    h.points("x2+y2-5;xy-2");
    h.solve("(x<=-1|x=0|x>2)");
    h.factors("4x4-4x3");
    h.read("tell 0", "5-7xy");
    return h;
  }

  private static void hold(House h, int j, String text, int i) {
    h.roots(text);
    h.x.hold(j, i);
  }

  /** Nothing but the tape may have changed. */
  static void stands(String after, House h) {
    House.due("the house after " + after, PORTRAIT, portrait(h));
  }

  /** All but one thing stands, which is another one now. */
  static void standsBut(String after, House h, String was, String is) {
    House.due("that stands there: " + was, 1, PORTRAIT.contains(was) ? 1 : 0);
    House.due("the house after " + after, PORTRAIT.replace(was, is), portrait(h));
  }

  private static String portrait(House h) {
    StringBuilder all = new StringBuilder(h.out()).append(';');
    for (int i = 0; i < 9 && h.x.times(i) >= 0; i++) {
      all.append(' ').append(h.x.times(i)).append('*').append(h.written("root " + i + " 6"));
    }
    all.append(';');
    for (int i = 0; i < 9 && h.x.point(i, 0, 1) >= 0; i++) {
      all.append(' ').append(h.out()).append(',').append(h.written("point " + i + " 1 1"));
    }
    all.append(';');
    for (int i = 0; i < 9 && h.x.piece(i, 0) >= 0; i++) {
      all.append(' ').append(Pieces.flags(h, i)).append(h.written("edge " + i + " 0 0"));
      all.append(',').append(h.written("edge " + i + " 1 0"));
    }
    all.append(';');
    for (int i = 0; i < 9 && h.x.power(i) >= 0; i++) {
      all.append(' ').append(h.written("factor " + i)).append('^').append(h.x.power(i));
    }
    all.append(';');
    for (int j = 0; j < 8; j++) {
      all.append(' ').append(h.written("least " + j));
      if (h.x.number(j, 4) >= 0) {
        all.append(':').append(h.out());
      }
    }
    return all.toString();
  }

  /** What was there is reckoned with as before, and new texts are read, whatever came before. */
  private static void goesOn(String after, House h) {
    House.due("signAt after " + after, 1, h.read("signAt 2", "x2-2"));
    House.due("below after " + after, 2, h.read("below 2", "x2+x"));
    House.due("signAtPoint after " + after, 1, h.read("signAtPoint 2", "4x2-4xy+y2"));
    House.due("compare after " + after, 2, h.x.compare(0, 7));
    House.due("reckon after " + after, 2, h.x.reckon(4, 0, 0, 7));
    House.due("decide after " + after, 1, h.decide("EyExx=y"));
    int count = h.solve("(x>1&x<=3)");
    House.due("solve after " + after, "(1,3]", Pieces.told(h, count, 0));
    House.due("points after " + after, 1, h.points("x-3;y"));
    House.due("roots after " + after, 2, h.roots("x2-3"));
    House.due("factors after " + after, 2, h.factors("x2-4"));
    h.tell(4, "x;y", "xy");
  }

  /** The call, told with all its arguments, is refused: all stays, and the text on the tape. */
  static void unread(String call, String text) {
    String what = call + " of " + text;
    House h = house();
    h.feed(text);
    House.due(what, -1, h.call(call));
    stands(what, h);
    House.due(what + " again", -1, h.call(call));
    House.due("the tape after " + what, (text.length() + 19) / 20 * 20, h.tapeSize());
    String plain = text.indexOf(';') < 0 ? "tell 0" : "tell 4";
    House other = new House();
    int told = other.read(plain, text);
    House.due("the text after " + what, told, h.call(plain + " " + text.length()));
    if (told >= 0) {
      House.due("the text after " + what, other.out(), h.out());
    }
    goesOn(what, h);
  }

  /** A call that reads all of the text, its n left out, is refused. */
  static void refused(String call, String text) {
    unread(call + " " + text.length(), text);
  }

  /** A call that reads nothing is refused. */
  static void refused(String call) {
    unread(call, "x+1");
  }

  /** A call that reads all of the text, its n left out, finds a fault: the tape alone is lost. */
  static void fault(String call, String text, int place) {
    String what = call + " of " + text;
    House h = house();
    House.due(what, -2 - place, h.read(call, text));
    stands(what, h);
    House.due("the tape after " + what, 0, h.tapeSize());
    // away with what tapeSize fed
    h.x.tell(0, 0);
    goesOn(what, h);
  }

  /** A call that reads all of the text, its n left out, answers: the tape is empty then. */
  static House answers(String call, String text, int want) {
    String what = call + " of " + text;
    House h = house();
    House.due(what, want, h.read(call, text));
    House.due("the tape after " + what, 0, h.tapeSize());
    return h;
  }

  /** A call that reads all of the text, its n left out, writes. */
  static void writes(String call, String text, String want) {
    House.due(call + " of " + text, want, answers(call, text, want.length()).out());
  }

  /** A call that reads nothing writes. */
  static void writes(String call, String want) {
    House h = house();
    h.wrote(call, want, h.call(call));
  }
}
