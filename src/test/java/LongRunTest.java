import java.lang.management.ManagementFactory;
import java.util.Random;

/**
 * Runs of 512 calls of all kinds, with arguments and texts of all kinds: none may throw, the same
 * calls answer the same again, and what a run makes stays small.
 */
public final class LongRunTest {
  /** Far below the room of a run, 7.3 million fields and elements. */
  private static final long ROOM = 8000000;
  private static final String LETTERS = "xxxyyy0123456789+-;<>=#&|~()EA \u00ff";

  public static void main(String[] args) {
    for (int seed = 0; seed < 200; seed++) {
      House.due("run " + seed + " again", run(seed, false), run(seed, false));
    }
    for (int seed = 0; seed < 20; seed++) {
      long before = made();
      run(seed, true);
      long bytes = made() - before;
      House.due("bytes that run " + seed + " made", 1, bytes < ROOM ? 1 : bytes);
      before = made();
      reckon(seed);
      bytes = made() - before;
      House.due("bytes that reckonings " + seed + " made", 1, bytes < ROOM ? 1 : bytes);
    }
    House.end();
  }

  private static long made() {
    return ((com.sun.management.ThreadMXBean) ManagementFactory.getThreadMXBean())
        .getThreadAllocatedBytes(Thread.currentThread().getId());
  }

  /** A number that all answers of the run make together. */
  private static long run(int seed, boolean great) {
    Random random = new Random(seed);
    House h = new House();
    long all = 0;
    for (int i = 0; h.x.left() > 25; i++) {
      String text = great ? great(random, i % 5) : text(random);
      int n = h.feed(text);
      n = random.nextInt(20) == 0 ? random.nextInt(500) - 50 : n;
      int kind = great ? i % 5 : random.nextInt(21);
      all = all * 31 + call(h.x, kind, n, random);
      if (random.nextInt(8) == 0) {
        all = all * 31 + h.x.out(random.nextInt(12) - 2);
      }
    }
    while (h.x.left() > 0) {
      all = all * 31 + h.x.out(h.x.left());
    }
    return all;
  }

  /** A run that reckons with numbers of degree 8 and such as have 60 digits. */
  private static void reckon(int seed) {
    Random random = new Random(seed);
    House h = new House();
    String[] texts = {
      "x8-3x-5", "x4-x-999983", "x2-3x-999983", "999983x-999979", "x-999983", "999959x-999961",
    };
    for (int j = 0; j < texts.length; j++) {
      h.roots(texts[j]);
      h.x.hold(j, 0);
    }
    while (h.x.left() > 6) {
      int j = random.nextInt(3);
      h.x.reckon(random.nextInt(4) == 0 ? 6 : j, random.nextInt(4), j, random.nextInt(7));
      h.x.number(random.nextInt(7), 200);
      h.x.compare(random.nextInt(7), random.nextInt(7));
      if (random.nextInt(12) == 0) {
        h.roots(texts[j]);
        h.x.hold(j, 0);
      }
    }
  }

  private static int small(Random random) {
    int kind = random.nextInt(12);
    return kind == 0 ? random.nextInt() : kind == 1 ? -1 : random.nextInt(5);
  }

  private static int call(Counted x, int kind, int n, Random r) {
    return switch (kind) {
      case 0 -> x.tell(5, n);
      case 1 -> x.decide(n);
      case 2 -> x.solve(n);
      case 3 -> x.points(n);
      case 4 -> x.roots(n);
      case 5 -> x.times(small(r));
      case 6 -> x.root(small(r), r.nextInt(220) - 5);
      case 7 -> x.signAt(small(r), n);
      case 8 -> x.below(small(r), n);
      case 9 -> x.point(small(r), small(r), r.nextInt(220) - 5);
      case 10 -> x.signAtPoint(small(r), n);
      case 11 -> x.piece(small(r), small(r));
      case 12 -> x.edge(small(r), small(r), r.nextInt(220) - 5);
      case 13 -> x.factors(n);
      case 14 -> x.factor(small(r));
      case 15 -> x.power(small(r));
      case 16 -> x.hold(small(r), small(r));
      case 17 -> x.reckon(small(r), small(r), small(r), small(r));
      case 18 -> x.least(small(r)) + x.number(small(r), r.nextInt(220) - 5);
      case 19 -> x.compare(small(r), small(r));
      default -> x.tell(r.nextInt(11) - 1, n);
    };
  }

  private static String text(Random random) {
    StringBuilder text = new StringBuilder();
    int kind = random.nextInt(6);
    if (kind == 0) {
      for (int i = random.nextInt(30); i > 0; i--) {
        text.append(LETTERS.charAt(random.nextInt(LETTERS.length())));
      }
    } else if (kind == 1) {
      text.append(poly(random, 8, 0, 99)).append(';').append(poly(random, 8, 0, 99));
    } else if (kind == 2) {
      text.append(poly(random, 3, 3, 9)).append(';').append(poly(random, 3, 3, 9));
    } else if (kind == 3) {
      text.append(random.nextBoolean() ? "Ex" : "Ax").append(random.nextBoolean() ? "Ey" : "Ay");
      text.append(poly(random, 3, 3, 9)).append("<").append(poly(random, 3, 3, 9));
    } else if (kind == 4) {
      text.append(random.nextBoolean() ? "Ey" : "Ay");
      text.append(poly(random, 3, 3, 9)).append(">=").append(poly(random, 3, 3, 9));
    } else {
      text.append(poly(random, random.nextInt(9), 0, 99));
    }
    return text.length() > 400 ? text.substring(0, 400) : text.toString();
  }

  /** A text that is dear for the call of that kind. */
  private static String great(Random random, int kind) {
    String text = "x";
    if (kind == 0) {
      text = poly(random, 8, 4, 999999) + ";" + poly(random, 8, 4, 999999);
    } else if (kind == 1 || kind == 2) {
      text = (kind == 1 ? "ExAy" : "Ay") + "(" + poly(random, 3, 3, 200) + "<0|"
          + poly(random, 3, 3, 200) + ">0|" + poly(random, 3, 3, 200) + "=0)";
    } else if (kind == 3) {
      text = poly(random, 3, 3, 200) + ";" + poly(random, 3, 3, 200);
    } else {
      text = poly(random, 8, 0, 999999);
    }
    return text.length() > 400 ? "x" : text;
  }

  private static String poly(Random random, int degree, int degreeY, int most) {
    StringBuilder text = new StringBuilder();
    for (int i = 0; i <= degree; i++) {
      for (int j = 0; j <= degreeY && i + j <= degree; j++) {
        if (degree > 3 && degreeY > 0 && random.nextInt(3) > 0) {
          continue;
        }
        text.append(random.nextBoolean() ? "-" : text.length() > 0 ? "+" : "");
        text.append(random.nextInt(most + 1));
        text.append(i > 0 ? "x" + i : "").append(j > 0 ? "y" + j : "");
      }
    }
    return text.length() == 0 ? "0" : text.toString();
  }
}
