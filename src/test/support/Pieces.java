/** The pieces of a house's solution, in words. */
final class Pieces {
  private Pieces() {}

  /** What is told of piece i: five bits. */
  static String flags(House h, int i) {
    StringBuilder bits = new StringBuilder();
    for (int what = 0; what < 5; what++) {
      bits.append(h.x.piece(i, what));
    }
    return bits.toString();
  }

  /**
   * For each piece [ or ( and ] or ), as an end belongs to it or not, and the ends, told at k, or -
   * for none; = between them, if they are the same.
   */
  static String told(House h, int count, int k) {
    StringBuilder all = new StringBuilder();
    for (int i = 0; i < count; i++) {
      boolean same = h.x.piece(i, 4) == 1;
      all.append(h.x.piece(i, 1) == 1 ? '[' : '(');
      all.append(end(h, i, 0, k)).append(same ? '=' : ',').append(end(h, i, 1, k));
      all.append(h.x.piece(i, 3) == 1 ? ']' : ')');
    }
    return all.toString();
  }

  private static String end(House h, int i, int which, int k) {
    if (h.x.piece(i, 2 * which) == 0) {
      House.due("edge of none", -1, h.x.edge(i, which, k));
      return "-";
    }
    return h.written("edge " + i + " " + which + " " + k);
  }
}
