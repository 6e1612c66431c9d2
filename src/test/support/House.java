/** A RealHouse whose tape is fed by texts, with a tally of the answers that were not due. */
final class House {
  private static int checked = 0;
  private static int wrong = 0;

  final Counted x = new Counted();

  /** Feeds a text, filled up with zero bytes: how long it was. */
  int feed(String text) {
    feedAll(text);
    return text.length();
  }

  /** Feeds a text, filled up with zero bytes: what the last feed answered. */
  int feedAll(String text) {
    int[] four = new int[(text.length() + 19) / 20 * 5];
    for (int i = 0; i < text.length(); i++) {
      four[i / 4] |= text.charAt(i) << 24 - i % 4 * 8;
    }
    int answer = 0;
    for (int i = 0; i < four.length; i += 5) {
      answer = x.feed(four[i], four[i + 1], four[i + 2], four[i + 3], four[i + 4]);
    }
    return answer;
  }

  /** How many bytes the tape has: one more feed tells, but for a full tape. */
  int tapeSize() {
    int size = x.feed(0, 0, 0, 0, 0);
    return size < 0 ? 400 : size - 20;
  }

  String out() {
    StringBuilder text = new StringBuilder();
    int size = x.out(-1);
    for (int i = 0; i < size; i++) {
      text.append((char) x.out(i));
    }
    return text.toString();
  }

  /** Makes a call that is told by its name and its arguments, with blanks between. */
  int call(String call) {
    String[] words = call.split(" ");
    int[] v = new int[5];
    for (int i = 1; i < words.length; i++) {
      v[i - 1] = Integer.parseInt(words[i]);
    }
    return switch (words[0]) {
      case "feed" -> x.feed(v[0], v[1], v[2], v[3], v[4]);
      case "out" -> x.out(v[0]);
      case "tell" -> x.tell(v[0], v[1]);
      case "roots" -> x.roots(v[0]);
      case "times" -> x.times(v[0]);
      case "root" -> x.root(v[0], v[1]);
      case "signAt" -> x.signAt(v[0], v[1]);
      case "below" -> x.below(v[0], v[1]);
      case "points" -> x.points(v[0]);
      case "point" -> x.point(v[0], v[1], v[2]);
      case "signAtPoint" -> x.signAtPoint(v[0], v[1]);
      case "decide" -> x.decide(v[0]);
      case "solve" -> x.solve(v[0]);
      case "piece" -> x.piece(v[0], v[1]);
      case "edge" -> x.edge(v[0], v[1], v[2]);
      case "factors" -> x.factors(v[0]);
      case "factor" -> x.factor(v[0]);
      case "power" -> x.power(v[0]);
      case "hold" -> x.hold(v[0], v[1]);
      case "reckon" -> x.reckon(v[0], v[1], v[2], v[3]);
      case "least" -> x.least(v[0]);
      case "number" -> x.number(v[0], v[1]);
      case "compare" -> x.compare(v[0], v[1]);
      default -> throw new IllegalArgumentException(call);
    };
  }

  /** Feeds a text and makes a call that reads all of it: n, its last argument, comes behind it. */
  int read(String call, String text) {
    return call(call + " " + feed(text));
  }

  /** Makes a call that writes: what it wrote, or its answer in brackets if it did not. */
  String written(String call) {
    int answer = call(call);
    return answer < 0 ? "(" + answer + ")" : out();
  }

  static void due(String what, long want, long got) {
    checked++;
    if (want != got) {
      wrong++;
      System.out.println(what + " answered " + got + ", due is " + want);
    }
  }

  static void due(String what, String want, String got) {
    checked++;
    if (!want.equals(got)) {
      wrong++;
      System.out.println(what + " is " + got + ", due is " + want);
    }
  }

  /** What a call that writes answered, and what stands in the OUT then. */
  void wrote(String what, String want, int got) {
    due(what + " (bytes)", want.length(), got);
    due(what + " (the OUT)", want, out());
  }

  void tell(int what, String text, String want) {
    wrote("tell " + what + " of " + text, want, x.tell(what, feed(text)));
  }

  int roots(String text) {
    return x.roots(feed(text));
  }

  int points(String text) {
    return x.points(feed(text));
  }

  int decide(String text) {
    return x.decide(feed(text));
  }

  int solve(String text) {
    return x.solve(feed(text));
  }

  int factors(String text) {
    return x.factors(feed(text));
  }

  static void end() {
    System.out.println(checked + " answers, " + wrong + " not as due");
    if (wrong != 0 || checked == 0) {
      System.exit(1);
    }
  }
}
