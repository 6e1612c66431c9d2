/** A RealHouse whose tape is fed by texts, with a tally of the answers that were not due. */
final class House {
  private static int checked = 0;
  private static int wrong = 0;

  final RealHouse x = new RealHouse();

  /** Feeds a text, filled up with zero bytes: how long it was. */
  int feed(String text) {
    int[] four = new int[(text.length() + 19) / 20 * 5];
    for (int i = 0; i < text.length(); i++) {
      four[i / 4] |= text.charAt(i) << 24 - i % 4 * 8;
    }
    for (int i = 0; i < four.length; i += 5) {
      x.feed(four[i], four[i + 1], four[i + 2], four[i + 3], four[i + 4]);
    }
    return text.length();
  }

  /** How many bytes the tape has: one more feed tells, but for a full tape. */
  int tapeSize() {
    int size = x.feed(0, 0, 0, 0, 0);
    return size < 0 ? 400 : size - 20;
  }

  String out() {
    StringBuilder text = new StringBuilder();
    for (int i = 0; i < x.out(-1); i++) {
      text.append((char) x.out(i));
    }
    return text.toString();
  }

  static void due(String what, long want, long got) {
    checked++;
    if (want != got) {
      wrong++;
      System.out.println(what + " answered " + got + ", due is " + want);
    }
  }

  /** What a call that writes answered, and what stands in the OUT then. */
  void wrote(String what, String want, int got) {
    due(what + " (bytes)", want.length(), got);
    checked++;
    if (!want.equals(out())) {
      wrong++;
      System.out.println(what + " wrote " + out() + ", due is " + want);
    }
  }

  void tell(int what, String text, String want) {
    wrote("tell " + what + " of " + text, want, x.tell(what, feed(text)));
  }

  int roots(String text) {
    return x.roots(feed(text));
  }

  int points(String text) {
    return x.points(feed(text));
  }

  int decide(String text) {
    return x.decide(feed(text));
  }

  int solve(String text) {
    return x.solve(feed(text));
  }

  int factors(String text) {
    return x.factors(feed(text));
  }

  static void end() {
    System.out.println(checked + " answers, " + wrong + " not as due");
    if (wrong != 0 || checked == 0) {
      System.exit(1);
    }
  }
}
