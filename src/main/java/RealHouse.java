import java.util.Arrays;

/**
 * A house of the real numbers: polynomials with whole coefficients, their real roots, the points
 * that two curves share, and sentences over the real numbers, all told exactly.
 *
 * <p>Every real number in it is kept as the root of an irreducible polynomial that lies from c/2^k
 * on and below (c+1)/2^k. So two of them are the same only if polynomial and place are, and a
 * polynomial is 0 at one of them only if the irreducible one divides it.
 */
public final class RealHouse {
  private static final int REFUSED = -1;
  private static final int TAPE = 400;
  private static final int HELD = 8;
  private static final int FINEST = 200;
  private static final int DEGREE = 8;
  /** Above all roots, points and critical places that one text can have (45, by Bezout). */
  private static final int MANY = 64;
  private static final int LIMB = 30;
  private static final int MASK = (1 << LIMB) - 1;
  /** Bounds loops for which the document tells none: far above what any run can need. */
  private static final int FAR = 1000000;

  private final Desk desk;
  private final Reader reader;
  private final Cells cells;
  private final int[] tape = new int[TAPE];
  private int tapeSize;
  private int[] script = new int[256];
  private int scriptSize;
  private final Real[] rootAt = new Real[MANY];
  private final int[] rootTimes = new int[MANY];
  private int rootCount;
  private final Real[] spotX = new Real[MANY];
  private final Real[] spotY = new Real[MANY];
  private final Curve[] bond = new Curve[MANY];
  private int spots;
  private final Real[] end = new Real[MANY];
  /** Two for each piece: below 0 for no end, else twice the end's place, and 1 if it belongs. */
  private final int[] span = new int[2 * MANY + 2];
  private int pieces;
  private final Poly[] part = new Poly[12];
  private final int[] partPower = new int[12];
  private int parts;
  private final Real[] kept = new Real[HELD];

  public RealHouse() {
    desk = new Desk();
    reader = new Reader(desk);
    cells = new Cells(desk);
  }

  public int feed(int a, int b, int c, int d, int e) {
    if (tapeSize + 20 > TAPE) {
      return REFUSED;
    }
    feedFour(a);
    feedFour(b);
    feedFour(c);
    feedFour(d);
    feedFour(e);
    return tapeSize;
  }

  public int out(int i) {
    if (i == -1) {
      return scriptSize;
    }
    return i >= 0 && i < scriptSize ? script[i] : -1;
  }

  public int tell(int what, int n) {
    if (what < 0 || what > 8 || isNoLength(n)) {
      return REFUSED;
    }
    reader.begin(tape, n, true, true);
    reader.readPolys(what > 3);
    if (reader.fault >= 0) {
      return faulty();
    }
    if (isUntold(what)) {
      return REFUSED;
    }
    tapeSize = 0;
    Poly p = reader.left.c[0];
    Poly q = reader.right.c[0];
    Curve told = reader.told;
    told.clear();
    if (what == 5) {
      told.c[0].copy(cells.resultant(reader.left, reader.right));
    } else if (what == 6) {
      told.c[0].gcd(p, q, cells.spare, cells.other);
    } else if (what == 7) {
      told.c[0].chain(p, q, cells.spare);
    } else {
      tellPlain(what);
    }
    scriptSize = 0;
    putCurve(told);
    return scriptSize;
  }

  public int roots(int n) {
    int answer = readInX(n, true);
    if (answer < 0) {
      return answer;
    }
    cells.clear();
    cells.splitter.run(reader.left.c[0]);
    cells.adopt();
    cells.collect();
    rootCount = cells.marks;
    for (int i = 0; i < rootCount; i++) {
      keep(rootAt, i, cells.mark[i]);
      rootTimes[i] = cells.often[i];
    }
    return rootCount;
  }

  public int times(int i) {
    return i >= 0 && i < rootCount ? rootTimes[i] : REFUSED;
  }

  public int root(int i, int k) {
    return i >= 0 && i < rootCount ? putReal(rootAt[i], k) : REFUSED;
  }

  public int signAt(int i, int n) {
    if (i < 0 || i >= rootCount) {
      return REFUSED;
    }
    int answer = readInX(n, false);
    return answer < 0 ? answer : 1 + rootAt[i].sign(reader.left.c[0]);
  }

  public int below(int i, int n) {
    if (i < 0 || i >= rootCount) {
      return REFUSED;
    }
    int answer = readInX(n, true);
    if (answer < 0) {
      return answer;
    }
    cells.clear();
    cells.splitter.run(reader.left.c[0]);
    cells.adopt();
    cells.collect();
    int less = 0;
    for (int j = 0; j < cells.marks && cells.mark[j].order(rootAt[i]) < 0; j++) {
      less++;
    }
    return less;
  }

  public int points(int n) {
    if (isNoLength(n)) {
      return REFUSED;
    }
    reader.begin(tape, n, true, true);
    reader.readPolys(true);
    if (reader.fault >= 0) {
      return faulty();
    }
    Curve p = reader.left;
    Curve q = reader.right;
    if (!p.isSmall() || !q.isSmall() || cells.haveShared(p, q)) {
      return REFUSED;
    }
    tapeSize = 0;
    cells.castDown(p, q);
    cells.collect();
    cells.keepColumns();
    cells.castAside(p, q);
    cells.collect();
    spots = 0;
    for (int i = 0; i < cells.columns; i++) {
      cells.tieAt(i, p, q);
      for (int j = 0; j < cells.marks && spots < MANY; j++) {
        if (cells.isTied(j)) {
          addSpot(cells.column[i], cells.mark[j]);
        }
      }
    }
    return spots;
  }

  public int point(int i, int which, int k) {
    if (i < 0 || i >= spots || which < 0 || which > 1) {
      return REFUSED;
    }
    return putReal(which == 0 ? spotX[i] : spotY[i], k);
  }

  public int signAtPoint(int i, int n) {
    if (i < 0 || i >= spots || isNoLength(n)) {
      return REFUSED;
    }
    reader.begin(tape, n, true, true);
    reader.readPolys(false);
    if (reader.fault >= 0) {
      return faulty();
    }
    if (!reader.left.isSmall()) {
      return REFUSED;
    }
    tapeSize = 0;
    return 1 + cells.signThere(spotX[i], spotY[i], bond[i], reader.left);
  }

  public int decide(int n) {
    if (isNoLength(n)) {
      return REFUSED;
    }
    reader.begin(tape, n, false, false);
    reader.readQuantifiers();
    reader.readFormula();
    if (reader.fault >= 0) {
      return faulty();
    }
    if (reader.refused) {
      return REFUSED;
    }
    tapeSize = 0;
    cells.load(reader);
    if (reader.outer != 0) {
      cells.project();
      cells.splitShadows();
      cells.collect();
    }
    boolean all = reader.outer == 'A';
    // the cells that are intervals come first: they are cheaper, and often enough to tell
    for (int odd = 0; odd < 2; odd++) {
      for (int i = odd; i <= 2 * cells.marks; i += 2) {
        boolean holds = cells.holdsAt(i, reader);
        if (reader.outer == 0 || holds != all) {
          return holds ? 1 : 0;
        }
      }
    }
    return all ? 1 : 0;
  }

  public int solve(int n) {
    if (isNoLength(n)) {
      return REFUSED;
    }
    reader.begin(tape, n, true, false);
    reader.readOverY();
    reader.readFormula();
    if (reader.fault >= 0) {
      return faulty();
    }
    if (reader.refused) {
      return REFUSED;
    }
    tapeSize = 0;
    cells.load(reader);
    cells.project();
    cells.splitShadows();
    cells.collect();
    pieces = 0;
    boolean open = false;
    for (int i = 0; i <= 2 * cells.marks; i++) {
      boolean holds = cells.holdsAt(i, reader);
      if (holds && !open) {
        span[2 * pieces] = i % 2 == 1 ? i : i - 2;
        span[2 * pieces + 1] = -1;
        pieces++;
      }
      if (open && !holds) {
        span[2 * pieces - 1] = i - 1;
      }
      open = holds;
    }
    for (int i = 0; i < cells.marks; i++) {
      keep(end, i, cells.mark[i]);
    }
    return pieces;
  }

  public int piece(int i, int what) {
    if (i < 0 || i >= pieces || what < 0 || what > 4) {
      return REFUSED;
    }
    int lower = span[2 * i];
    int upper = span[2 * i + 1];
    if (what == 4) {
      return lower >= 0 && lower == upper ? 1 : 0;
    }
    int asked = what < 2 ? lower : upper;
    if (what % 2 == 0) {
      return asked >= 0 ? 1 : 0;
    }
    return asked >= 0 ? asked % 2 : 0;
  }

  public int edge(int i, int which, int k) {
    if (i < 0 || i >= pieces || which < 0 || which > 1) {
      return REFUSED;
    }
    int asked = span[2 * i + which];
    return asked >= 0 ? putReal(end[asked / 2], k) : REFUSED;
  }

  public int factors(int n) {
    int answer = readInX(n, true);
    if (answer < 0) {
      return answer;
    }
    Splitter splitter = cells.splitter;
    splitter.run(reader.left.c[0]);
    parts = splitter.count;
    for (int i = 0; i < parts; i++) {
      if (part[i] == null) {
        part[i] = new Poly(desk);
      }
      part[i].copy(splitter.found[i]);
      partPower[i] = splitter.often[i];
    }
    return parts;
  }

  public int factor(int i) {
    return i >= 0 && i < parts ? putPoly(part[i]) : REFUSED;
  }

  public int power(int i) {
    return i >= 0 && i < parts ? partPower[i] : REFUSED;
  }

  public int hold(int j, int i) {
    if (j < 0 || j >= HELD || i < 0 || i >= rootCount) {
      return REFUSED;
    }
    keep(kept, j, rootAt[i]);
    return rootAt[i].m.n - 1;
  }

  public int reckon(int j, int what, int a, int b) {
    if (j < 0 || j >= HELD || what < 0 || what > 3 || isNoNumber(a) || isNoNumber(b)) {
      return REFUSED;
    }
    Real left = kept[a];
    Real right = kept[b];
    if (what == 3 && right.isZero() || (left.m.n - 1) * (right.m.n - 1) > DEGREE) {
      return REFUSED;
    }
    Poly among = cells.reckoned(what, left.m, right.m);
    // a fraction that is not 0 moves or stretches the other's polynomial, which stays irreducible
    boolean whole = left.m.n == 2 || right.m.n == 2;
    cells.clear();
    if (whole && !left.isZero() && !right.isZero()) {
      cells.splitter.takeWhole(among);
    } else {
      cells.splitter.run(among);
    }
    cells.adopt();
    cells.collect();
    int place = cells.placeOf(what, left, right);
    if (place < 0 || place >= cells.marks || cells.mark[place].m.isLong()) {
      return REFUSED;
    }
    keep(kept, j, cells.mark[place]);
    return kept[j].m.n - 1;
  }

  public int least(int j) {
    return isNoNumber(j) ? REFUSED : putPoly(kept[j].m);
  }

  public int number(int j, int k) {
    return isNoNumber(j) ? REFUSED : putReal(kept[j], k);
  }

  public int compare(int a, int b) {
    return isNoNumber(a) || isNoNumber(b) ? REFUSED : 1 + kept[a].order(kept[b]);
  }

  private void feedFour(int four) {
    for (int shift = 24; shift >= 0 && tapeSize < TAPE; shift -= 8) {
      tape[tapeSize] = four >>> shift & 255;
      tapeSize++;
    }
  }

  private boolean isNoLength(int n) {
    return n < 0 || n > tapeSize;
  }

  private boolean isNoNumber(int j) {
    return j < 0 || j >= HELD || kept[j] == null;
  }

  private int faulty() {
    tapeSize = 0;
    return -2 - reader.fault;
  }

  /** Reads a polynomial in x alone: below 0 what is to be answered if that can't be done. */
  private int readInX(int n, boolean notZero) {
    if (isNoLength(n)) {
      return REFUSED;
    }
    reader.begin(tape, n, true, false);
    reader.readPolys(false);
    if (reader.fault >= 0) {
      return faulty();
    }
    if (notZero && reader.left.c[0].n == 0) {
      return REFUSED;
    }
    tapeSize = 0;
    return 0;
  }

  private boolean isUntold(int what) {
    int p = reader.left.degree();
    int q = reader.right.degree();
    if (what == 5) {
      return p > 4 || q > 4;
    }
    if (what == 6 || what == 7) {
      int across = Math.max(0, reader.left.c[0].n - 1) * Math.max(0, reader.right.c[0].n - 1);
      return p > 0 || q > 0 || what == 7 && across > 16;
    }
    return false;
  }

  private void tellPlain(int what) {
    Curve p = reader.left;
    Curve q = reader.right;
    Curve told = reader.told;
    if (what == 1) {
      told.slopeX(p);
    } else if (what == 2) {
      told.slopeY(p);
    } else if (what == 4) {
      told.addProduct(p, q, 1);
    } else if (what == 8) {
      Curve slopeP = reader.curve[0];
      Curve slopeQ = reader.curve[1];
      slopeP.slopeX(p);
      slopeQ.slopeY(q);
      told.addProduct(slopeP, slopeQ, 1);
      slopeP.slopeY(p);
      slopeQ.slopeX(q);
      told.addProduct(slopeP, slopeQ, -1);
    } else {
      told.copy(p);
      if (what == 3) {
        told.primitive();
      }
    }
  }

  private void keep(Real[] list, int place, Real r) {
    if (list[place] == null) {
      list[place] = new Real(desk);
    }
    list[place].copy(r);
  }

  private void addSpot(Real x, Real y) {
    keep(spotX, spots, x);
    keep(spotY, spots, y);
    if (bond[spots] == null) {
      bond[spots] = new Curve(desk, 4);
    }
    bond[spots].copy(cells.tie);
    spots++;
  }

  private void put(int b) {
    if (scriptSize == script.length) {
      script = Arrays.copyOf(script, 2 * scriptSize);
    }
    script[scriptSize] = b;
    scriptSize++;
  }

  private void putBig(Big v) {
    if (v.s < 0) {
      put('-');
    }
    int from = scriptSize;
    Big rest = desk.spare;
    rest.copy(v);
    for (int i = 0; i < FAR && (i == 0 || rest.n > 0); i++) {
      int nine = rest.cut(1000000000);
      for (int j = 0; j < 9; j++) {
        put('0' + nine % 10);
        nine /= 10;
      }
    }
    while (scriptSize > from + 1 && script[scriptSize - 1] == '0') {
      scriptSize--;
    }
    for (int i = from, j = scriptSize - 1; i < j; i++, j--) {
      int b = script[i];
      script[i] = script[j];
      script[j] = b;
    }
  }

  private void putLetter(int letter, int exponent) {
    if (exponent == 0) {
      return;
    }
    put(letter);
    if (exponent > 9) {
      put('0' + exponent / 10);
    }
    if (exponent > 1) {
      put('0' + exponent % 10);
    }
  }

  private void putTerm(Big v, int px, int py) {
    if (v.s == 0) {
      return;
    }
    if (scriptSize > 0 && v.s > 0) {
      put('+');
    }
    boolean unit = v.n == 1 && v.d[0] == 1;
    if (!unit || px + py == 0) {
      putBig(v);
    } else if (v.s < 0) {
      put('-');
    }
    putLetter('x', px);
    putLetter('y', py);
  }

  private void putCurve(Curve f) {
    for (int i = f.width() - 1; i >= 0; i--) {
      for (int j = f.c.length - 1; j >= 0; j--) {
        if (i < f.c[j].n) {
          putTerm(f.c[j].c[i], i, j);
        }
      }
    }
    if (scriptSize == 0) {
      put('0');
    }
  }

  private int putPoly(Poly f) {
    scriptSize = 0;
    for (int i = f.n - 1; i >= 0; i--) {
      putTerm(f.c[i], i, 0);
    }
    return scriptSize;
  }

  private int putReal(Real r, int k) {
    if (k < 0 || k > FINEST) {
      return REFUSED;
    }
    r.refine(k);
    scriptSize = 0;
    desk.told.right(r.c, r.k - k);
    putBig(desk.told);
    return scriptSize;
  }

  /** A whole number of any size: a sign and limbs of 30 bits, the lowest first. */
  private static final class Big {
    int[] d = new int[6];
    int n;
    int s;

    void put(long v) {
      s = v > 0 ? 1 : v < 0 ? -1 : 0;
      long rest = Math.abs(v);
      n = 0;
      while (rest != 0 && n < 3) {
        d[n] = (int) (rest & MASK);
        rest >>>= LIMB;
        n++;
      }
    }

    void copy(Big a) {
      if (d.length < a.n) {
        d = new int[a.n + 4];
      }
      System.arraycopy(a.d, 0, d, 0, a.n);
      n = a.n;
      s = a.s;
    }

    /** a and b times sb, which is 1 or -1; either may be this one. */
    void sum(Big a, Big b, int sb) {
      int an = a.n;
      int bn = b.n;
      int top = an > bn ? an : bn;
      if (d.length <= top) {
        d = Arrays.copyOf(d, top + 5);
      }
      int as = a.s;
      int bs = b.s * sb;
      int carry = 0;
      if (as * bs >= 0) {
        for (int i = 0; i < top; i++) {
          int v = (i < an ? a.d[i] : 0) + (i < bn ? b.d[i] : 0) + carry;
          d[i] = v & MASK;
          carry = v >>> LIMB;
        }
        d[top] = carry;
        n = top + carry;
        s = as != 0 ? as : bs;
        return;
      }
      int same = an == bn ? top - 1 : -1;
      while (same >= 0 && a.d[same] == b.d[same]) {
        same--;
      }
      int sign = an != bn ? an - bn : same < 0 ? 0 : a.d[same] - b.d[same];
      int[] more = sign < 0 ? b.d : a.d;
      int[] less = sign < 0 ? a.d : b.d;
      int lessN = an < bn ? an : bn;
      for (int i = 0; i < top; i++) {
        int v = more[i] - (i < lessN ? less[i] : 0) - carry;
        d[i] = v & MASK;
        carry = v >>> 31;
      }
      while (top > 0 && d[top - 1] == 0) {
        top--;
      }
      n = top;
      s = sign == 0 ? 0 : sign > 0 ? as : bs;
    }

    /** a times b, neither of them this one. */
    void product(Big a, Big b) {
      int an = a.n;
      int bn = b.n;
      if (an == 0 || bn == 0) {
        n = 0;
        s = 0;
        return;
      }
      if (d.length < an + bn) {
        d = new int[an + bn + 4];
      }
      int[] to = d;
      int[] y = b.d;
      for (int j = 0; j < bn; j++) {
        to[j] = 0;
      }
      for (int i = 0; i < an; i++) {
        long f = a.d[i];
        long carry = 0;
        for (int j = 0; j < bn; j++) {
          long v = f * y[j] + to[i + j] + carry;
          to[i + j] = (int) v & MASK;
          carry = v >>> LIMB;
        }
        to[i + bn] = (int) carry;
      }
      n = to[an + bn - 1] == 0 ? an + bn - 1 : an + bn;
      s = a.s * b.s;
    }

    /** a times 2^bits; a may be this one. */
    void left(Big a, int bits) {
      int an = a.n;
      if (an == 0 || bits < 0) {
        n = 0;
        s = 0;
        return;
      }
      int words = bits / LIMB;
      int off = bits % LIMB;
      int top = an + words;
      if (d.length <= top) {
        d = Arrays.copyOf(d, top + 5);
      }
      int[] x = a.d;
      d[top] = x[an - 1] >>> LIMB - off;
      for (int i = an - 1; i > 0; i--) {
        d[i + words] = x[i] << off & MASK | x[i - 1] >>> LIMB - off;
      }
      d[words] = x[0] << off & MASK;
      Arrays.fill(d, 0, words, 0);
      n = d[top] == 0 ? top : top + 1;
      s = a.s;
    }

    /** The greatest whole number that is at most a/2^bits; a may be this one. */
    void right(Big a, int bits) {
      int an = a.n;
      int words = Math.min(Math.max(bits, 0) / LIMB, an);
      int off = Math.max(bits, 0) % LIMB;
      int[] x = a.d;
      boolean lost = words < an && (x[words] & (1 << off) - 1) != 0;
      for (int i = 0; i < words && !lost; i++) {
        lost = x[i] != 0;
      }
      int top = an - words;
      if (d.length <= top) {
        d = Arrays.copyOf(d, top + 5);
      }
      x = a.d;
      for (int i = 0; i < top; i++) {
        int high = i + words + 1 < an ? x[i + words + 1] : 0;
        d[i] = x[i + words] >>> off | high << LIMB - off & MASK;
      }
      if (top > 0 && d[top - 1] == 0) {
        top--;
      }
      s = a.s;
      if (lost && s < 0) {
        int i = 0;
        while (i < top && d[i] == MASK) {
          d[i] = 0;
          i++;
        }
        d[i] = i < top ? d[i] + 1 : 1;
        top = Math.max(top, i + 1);
      }
      n = top;
      s = top == 0 ? 0 : s;
    }

    /** The quotient a/b without its fraction, the remainder, signed as a, in r; r may be a. */
    void divide(Big a, Big b, Big r) {
      int an = a.n;
      int bn = b.n;
      if (r.d.length <= an) {
        r.d = Arrays.copyOf(r.d, an + 5);
      }
      System.arraycopy(a.d, 0, r.d, 0, an);
      r.d[an] = 0;
      r.n = an;
      r.s = a.s;
      n = 0;
      s = 0;
      if (bn == 0 || an < bn) {
        return;
      }
      int size = an - bn + 1;
      if (d.length < size) {
        d = new int[size + 4];
      }
      for (int j = size - 1; j >= 0; j--) {
        d[j] = digit(r.d, b.d, bn, j);
      }
      n = d[size - 1] == 0 ? size - 1 : size;
      s = n == 0 ? 0 : a.s * b.s;
      int top = bn;
      while (top > 0 && r.d[top - 1] == 0) {
        top--;
      }
      r.n = top;
      r.s = top == 0 ? 0 : r.s;
    }

    /** One limb of a quotient (Knuth's algorithm D): u less v times it, from limb j on, stays. */
    private static int digit(int[] u, int[] v, int bn, int j) {
      int shift = 0;
      while (shift < LIMB - 1 && v[bn - 1] << shift < 1 << LIMB - 1) {
        shift++;
      }
      int back = LIMB - shift;
      int v1 = bn > 1 ? v[bn - 2] : 0;
      int v0 = bn > 2 ? v[bn - 3] : 0;
      long w1 = (v[bn - 1] << shift | v1 >>> back) & MASK;
      long w0 = (v1 << shift | v0 >>> back) & MASK;
      int at = j + bn;
      int u1 = at > 1 ? u[at - 2] : 0;
      int u0 = at > 2 ? u[at - 3] : 0;
      long t2 = (u[at] << shift | u[at - 1] >>> back) & MASK;
      long t1 = (u[at - 1] << shift | u1 >>> back) & MASK;
      long t0 = (u1 << shift | u0 >>> back) & MASK;
      long q = w1 > 0 ? (t2 << LIMB | t1) / w1 : 0;
      long rest = (t2 << LIMB | t1) - q * w1;
      for (int i = 0; i < 2 && rest <= MASK && (q > MASK || q * w0 > (rest << LIMB | t0)); i++) {
        q--;
        rest += w1;
      }
      long carry = 0;
      long borrow = 0;
      for (int i = 0; i < bn; i++) {
        long p = q * v[i] + carry;
        carry = p >>> LIMB;
        long t = u[i + j] - (p & MASK) + borrow;
        u[i + j] = (int) t & MASK;
        borrow = t >> LIMB;
      }
      long t = u[at] - carry + borrow;
      u[at] = (int) t & MASK;
      if (t < 0) {
        q--;
        int c = 0;
        for (int i = 0; i < bn; i++) {
          int w = u[i + j] + v[i] + c;
          u[i + j] = w & MASK;
          c = w >>> LIMB;
        }
        u[at] = u[at] + c & MASK;
      }
      return (int) q;
    }

    /** Divides by f, which is 1 .. 2^30, without the fraction: the remainder of the size. */
    int cut(int f) {
      long rest = 0;
      for (int i = n - 1; i >= 0 && f > 0; i--) {
        long v = rest << LIMB | d[i];
        d[i] = (int) (v / f);
        rest = v % f;
      }
      while (n > 0 && d[n - 1] == 0) {
        n--;
      }
      s = n == 0 ? 0 : s;
      return (int) rest;
    }

    /** The remainder by p, 0 .. p-1. */
    int residue(int p) {
      long rest = 0;
      for (int i = n - 1; i >= 0 && p > 0; i--) {
        rest = (rest << LIMB | d[i]) % p;
      }
      return (int) (s < 0 && rest != 0 ? p - rest : rest);
    }

    int bits() {
      if (n == 0) {
        return 0;
      }
      int top = d[n - 1];
      int length = 0;
      while (top != 0 && length < LIMB) {
        top >>>= 1;
        length++;
      }
      return LIMB * (n - 1) + length;
    }

    boolean isOne() {
      return n == 1 && s > 0 && d[0] == 1;
    }

    boolean isEven() {
      return n == 0 || (d[0] & 1) == 0;
    }

    int sizeOrder(Big b) {
      if (n != b.n) {
        return n < b.n ? -1 : 1;
      }
      for (int i = n - 1; i >= 0; i--) {
        if (d[i] != b.d[i]) {
          return d[i] < b.d[i] ? -1 : 1;
        }
      }
      return 0;
    }

    int order(Big b) {
      if (s != b.s) {
        return s < b.s ? -1 : 1;
      }
      return s * sizeOrder(b);
    }
  }

  /** What all calls reckon on: numbers that hold nothing from one step to the next. */
  private static final class Desk {
    final Big one = new Big();
    /** 10^60: numbers from it on have more than 60 digits. */
    final Big sixty = new Big();
    final Big spare = new Big();
    final Big told = new Big();
    /** For single steps: none calls another one while it needs what it has put here. */
    final Big f = new Big();
    final Big g = new Big();
    final Big h = new Big();
    /** What findGcd found last, and what it works with. */
    final Big gcd = new Big();
    final Big gcdA = new Big();
    final Big gcdB = new Big();
    final Big gcdQ = new Big();
    /** For the narrowing of a real number. */
    final Big[] narrow = new Big[8];
    /** For the sign at a real number, and for the order of two. */
    final Big low = new Big();
    final Big high = new Big();
    /** What a division of polynomials leaves. */
    Big[] rest = new Big[0];
    /** Bounds of the powers of the real number that was asked last, times 2^tableLevel. */
    Big[] under = new Big[0];
    Big[] over = new Big[0];
    Real owner;
    int tableLevel;
    int tableSize;

    Desk() {
      one.put(1);
      Big ten = new Big();
      ten.put(1000000000000L);
      sixty.copy(one);
      for (int i = 0; i < 5; i++) {
        spare.product(sixty, ten);
        sixty.copy(spare);
      }
      for (int i = 0; i < narrow.length; i++) {
        narrow[i] = new Big();
      }
    }

    /** A row of at least that many numbers, those of the old row among them. */
    static Big[] row(Big[] old, int size) {
      if (old.length >= size) {
        return old;
      }
      Big[] more = new Big[size + 8];
      for (int i = 0; i < more.length; i++) {
        more[i] = i < old.length ? old[i] : new Big();
      }
      return more;
    }

    /** The greatest number that divides a and b, in gcd; gcd may be a. */
    void findGcd(Big a, Big b) {
      gcdA.copy(a);
      gcdB.copy(b);
      Big x = gcdA;
      Big y = gcdB;
      for (int i = 0; i < FAR && y.s != 0; i++) {
        gcdQ.divide(x, y, x);
        Big was = x;
        x = y;
        y = was;
      }
      gcd.copy(x);
      gcd.s = gcd.n == 0 ? 0 : 1;
    }
  }

  /** A polynomial in x with whole coefficients: n of them, the last not 0. */
  private static final class Poly {
    final Desk desk;
    Big[] c = new Big[0];
    int n;

    Poly(Desk desk) {
      this.desk = desk;
    }

    void copy(Poly a) {
      widen(a.n);
      for (int i = 0; i < a.n; i++) {
        c[i].copy(a.c[i]);
      }
      n = a.n;
    }

    void put(long v) {
      widen(1);
      c[0].put(v);
      n = v == 0 ? 0 : 1;
    }

    /** Adds v times x^i. */
    void add(Big v, int i) {
      widen(i + 1);
      c[i].sum(c[i], v, 1);
      trim();
    }

    /** Adds v times x^i. */
    void addNumber(long v, int i) {
      desk.f.put(v);
      widen(i + 1);
      c[i].sum(c[i], desk.f, 1);
      trim();
    }

    /** Makes it that long at least, with 0s at the top. */
    private void widen(int size) {
      if (c.length < size) {
        Big[] more = new Big[size + 2];
        for (int i = 0; i < more.length; i++) {
          more[i] = i < c.length ? c[i] : new Big();
        }
        c = more;
      }
      while (n < size) {
        c[n].put(0);
        n++;
      }
    }

    private void trim() {
      while (n > 0 && c[n - 1].s == 0) {
        n--;
      }
    }

    /** Adds a times sign, which is 1 or -1. */
    void addAll(Poly a, int sign) {
      widen(a.n);
      for (int i = 0; i < a.n; i++) {
        c[i].sum(c[i], a.c[i], sign);
      }
      trim();
    }

    void addScaled(Poly a, Big v) {
      if (v.s == 0) {
        return;
      }
      widen(a.n);
      for (int i = 0; i < a.n; i++) {
        desk.f.product(a.c[i], v);
        c[i].sum(c[i], desk.f, 1);
      }
      trim();
    }

    /** Adds a times b times sign, which is 1 or -1; neither is this one. */
    void addProduct(Poly a, Poly b, int sign) {
      if (a.n == 0 || b.n == 0) {
        return;
      }
      widen(a.n + b.n - 1);
      for (int i = 0; i < a.n; i++) {
        for (int j = 0; j < b.n; j++) {
          desk.f.product(a.c[i], b.c[j]);
          c[i + j].sum(c[i + j], desk.f, sign);
        }
      }
      trim();
    }

    void lift(int bits) {
      for (int i = 0; i < n; i++) {
        c[i].left(c[i], bits);
      }
    }

    void slope(Poly a) {
      widen(a.n);
      n = Math.max(0, a.n - 1);
      for (int i = 0; i < n; i++) {
        desk.f.put(i + 1);
        c[i].product(a.c[i + 1], desk.f);
      }
    }

    /** Each coefficient's remainder by v. */
    void modulo(Big v) {
      for (int i = 0; i < n; i++) {
        desk.f.divide(c[i], v, c[i]);
      }
      trim();
    }

    /** Divides by all coefficients' common divisor, and makes the highest one positive. */
    void primitive() {
      desk.gcd.put(0);
      for (int i = n - 1; i >= 0 && !desk.gcd.isOne(); i--) {
        desk.findGcd(desk.gcd, c[i]);
      }
      int sign = n > 0 ? c[n - 1].s : 1;
      boolean whole = !desk.gcd.isOne();
      for (int i = 0; i < n; i++) {
        if (whole) {
          desk.f.divide(c[i], desk.gcd, desk.g);
          c[i].copy(desk.f);
        }
        c[i].s *= sign;
      }
    }

    /**
     * Whether this one, not 0, divides a, with a quotient that may have fractions. A multiple of
     * the remainder is in the desk's rest then, as long as a.
     */
    boolean divides(Poly a) {
      desk.rest = Desk.row(desk.rest, a.n);
      Big[] r = desk.rest;
      for (int i = 0; i < a.n; i++) {
        r[i].copy(a.c[i]);
      }
      for (int e = a.n - 1; e >= n - 1 && n > 0; e--) {
        if (r[e].s == 0) {
          continue;
        }
        int from = e - n + 1;
        for (int j = 0; j < e; j++) {
          desk.f.product(r[j], c[n - 1]);
          r[j].copy(desk.f);
          if (j >= from) {
            desk.f.product(r[e], c[j - from]);
            r[j].sum(r[j], desk.f, -1);
          }
        }
        r[e].put(0);
      }
      boolean none = true;
      for (int i = 0; i < a.n && none; i++) {
        none = r[i].s == 0;
      }
      return none;
    }

    /** A multiple of a's remainder by b, b not 0. */
    void remainder(Poly a, Poly b) {
      boolean none = b.divides(a);
      widen(a.n);
      n = none ? 0 : a.n;
      for (int i = 0; i < n; i++) {
        c[i].copy(desk.rest[i]);
      }
      trim();
    }

    /** a/b, both primitive, if it has whole coefficients and no remainder. */
    boolean quotient(Poly a, Poly b) {
      if (b.n == 0 || a.n < b.n) {
        return false;
      }
      desk.rest = Desk.row(desk.rest, a.n);
      Big[] r = desk.rest;
      for (int i = 0; i < a.n; i++) {
        r[i].copy(a.c[i]);
      }
      widen(a.n - b.n + 1);
      n = a.n - b.n + 1;
      boolean exact = true;
      for (int i = n - 1; i >= 0 && exact; i--) {
        c[i].divide(r[i + b.n - 1], b.c[b.n - 1], desk.g);
        exact = desk.g.s == 0;
        for (int j = 0; j < b.n && exact; j++) {
          desk.f.product(c[i], b.c[j]);
          r[i + j].sum(r[i + j], desk.f, -1);
        }
      }
      for (int i = 0; i < b.n - 1 && exact; i++) {
        exact = r[i].s == 0;
      }
      return exact;
    }

    /** The greatest common divisor, primitive; u and v are overwritten. */
    void gcd(Poly a, Poly b, Poly u, Poly v) {
      u.copy(a.n < b.n ? b : a);
      u.primitive();
      v.copy(a.n < b.n ? a : b);
      v.primitive();
      Poly x = u;
      Poly y = v;
      for (int i = 0; i < FAR && y.n > 1; i++) {
        x.remainder(x, y);
        x.primitive();
        Poly was = x;
        x = y;
        y = was;
      }
      if (y.n == 1) {
        put(1);
      } else {
        copy(x);
      }
    }

    /** p with q in the place of x. */
    void chain(Poly p, Poly q, Poly u) {
      n = 0;
      for (int i = p.n - 1; i >= 0; i--) {
        u.copy(this);
        n = 0;
        addProduct(u, q, 1);
        add(p.c[i], 0);
      }
    }

    /** The value at e/2^k, times 2^k as often as the degree says; k is not below 0. */
    void valueAt(Big e, int k, Big to) {
      to.put(0);
      for (int i = n - 1; i >= 0; i--) {
        desk.f.product(to, e);
        desk.g.left(c[i], k * (n - 1 - i));
        to.sum(desk.f, desk.g, 1);
      }
    }

    boolean isSame(Poly b) {
      boolean same = n == b.n;
      for (int i = 0; i < n && same; i++) {
        same = c[i].order(b.c[i]) == 0;
      }
      return same;
    }

    /** By degree, then by the coefficients, the highest power's first. */
    int order(Poly b) {
      int by = Integer.compare(n, b.n);
      for (int i = n - 1; i >= 0 && by == 0; i--) {
        by = c[i].order(b.c[i]);
      }
      return by;
    }

    boolean isLong() {
      boolean isLong = false;
      for (int i = 0; i < n && !isLong; i++) {
        isLong = c[i].sizeOrder(desk.sixty) >= 0;
      }
      return isLong;
    }
  }

  /** A polynomial in x and y: c[j] has what stands at y to the power j. */
  private static final class Curve {
    final Poly[] c;

    Curve(Desk desk, int rows) {
      c = new Poly[rows];
      for (int j = 0; j < rows; j++) {
        c[j] = new Poly(desk);
      }
    }

    void clear() {
      for (int j = 0; j < c.length; j++) {
        c[j].n = 0;
      }
    }

    void copy(Curve f) {
      for (int j = 0; j < c.length; j++) {
        if (j < f.c.length) {
          c[j].copy(f.c[j]);
        } else {
          c[j].n = 0;
        }
      }
    }

    /** Its degree in y, -1 if it is 0. */
    int degree() {
      int d = c.length - 1;
      while (d >= 0 && c[d].n == 0) {
        d--;
      }
      return d;
    }

    /** How many powers of x it has, the power 0 among them. */
    int width() {
      int width = 0;
      for (int j = 0; j < c.length; j++) {
        width = Math.max(width, c[j].n);
      }
      return width;
    }

    void addProduct(Curve f, Curve g, int sign) {
      for (int i = f.degree(); i >= 0; i--) {
        for (int j = Math.min(g.degree(), c.length - 1 - i); j >= 0; j--) {
          c[i + j].addProduct(f.c[i], g.c[j], sign);
        }
      }
    }

    void subtract(Curve f) {
      for (int j = 0; j < c.length && j < f.c.length; j++) {
        c[j].addAll(f.c[j], -1);
      }
    }

    void slopeX(Curve f) {
      clear();
      for (int j = 0; j < c.length && j < f.c.length; j++) {
        c[j].slope(f.c[j]);
      }
    }

    void slopeY(Curve f) {
      clear();
      for (int j = 1; j < f.c.length && j <= c.length; j++) {
        f.c[j].desk.h.put(j);
        c[j - 1].addScaled(f.c[j], f.c[j].desk.h);
      }
    }

    /** x and y exchanged. */
    void mirror(Curve f) {
      clear();
      for (int j = 0; j < f.c.length; j++) {
        for (int i = 0; i < f.c[j].n && i < c.length; i++) {
          c[i].add(f.c[j].c[i], j);
        }
      }
    }

    /** Divides as a polynomial is: its first term is the one with the most x, then the most y. */
    void primitive() {
      Desk desk = c[0].desk;
      desk.gcd.put(0);
      int width = width();
      int sign = 1;
      for (int j = 0; j < c.length; j++) {
        for (int i = 0; i < c[j].n; i++) {
          desk.findGcd(desk.gcd, c[j].c[i]);
        }
        sign = width > 0 && c[j].n == width ? c[j].c[width - 1].s : sign;
      }
      for (int j = 0; j < c.length; j++) {
        for (int i = 0; i < c[j].n; i++) {
          desk.f.divide(c[j].c[i], desk.gcd, desk.g);
          c[j].c[i].copy(desk.f);
          c[j].c[i].s *= sign;
        }
      }
    }

    boolean isSmall() {
      boolean small = true;
      for (int j = 0; j < c.length; j++) {
        for (int i = 0; i < c[j].n && small; i++) {
          Big v = c[j].c[i];
          small = v.n == 0 || i + j <= 3 && v.n == 1 && v.d[0] <= 200;
        }
      }
      return small;
    }

    /** Whether it is f times sign, which is 1 or -1. */
    boolean isSame(Curve f, int sign) {
      boolean same = c.length == f.c.length;
      for (int j = 0; j < c.length && same; j++) {
        same = c[j].n == f.c[j].n;
        for (int i = 0; i < c[j].n && same; i++) {
          Big v = c[j].c[i];
          same = v.s == f.c[j].c[i].s * sign && v.sizeOrder(f.c[j].c[i]) == 0;
        }
      }
      return same;
    }
  }

  /** Determinants of matrices whose places hold polynomials in x. */
  private static final class Minors {
    private static final int SIDE = 9;
    final Desk desk;
    final Poly[] place = new Poly[SIDE * SIDE];
    /** By a set of columns: the determinant of these in as many first rows. */
    final Poly[] minor = new Poly[1 << SIDE];

    Minors(Desk desk) {
      this.desk = desk;
    }

    /**
     * Lays out Sylvester's matrix of f and g without the last j rows of both and the last columns,
     * but for the one at y to the power last, and answers its side.
     */
    int lay(Curve f, Curve g, int j, int last) {
      int m = f.degree();
      int n = g.degree();
      int side = m + n - 2 * j;
      if (m < j || n < j || side > SIDE) {
        return 0;
      }
      for (int row = 0; row < side; row++) {
        boolean upper = row < n - j;
        Curve from = upper ? f : g;
        int shift = upper ? n - j - 1 - row : side - 1 - row;
        for (int column = 0; column < side; column++) {
          int at = (column == side - 1 ? last : m + n - j - 1 - column) - shift;
          boolean inside = at >= 0 && at <= (upper ? m : n);
          place[row * SIDE + column] = inside ? from.c[at] : null;
        }
      }
      return side;
    }

    /** The determinant of the first side rows and columns. */
    Poly run(int side) {
      for (int set = 0; set < 1 << side; set++) {
        if (minor[set] == null) {
          minor[set] = new Poly(desk);
        }
        Poly sum = minor[set];
        sum.n = 0;
        if (set == 0) {
          sum.put(1);
        }
        int row = Integer.bitCount(set) - 1;
        for (int column = 0; column < side; column++) {
          if ((set >> column & 1) == 0) {
            continue;
          }
          Poly by = place[row * SIDE + column];
          Poly less = minor[set ^ 1 << column];
          if (by != null && less != null) {
            sum.addProduct(less, by, (Integer.bitCount(set >> column + 1) & 1) == 0 ? 1 : -1);
          }
        }
      }
      return minor[(1 << side) - 1];
    }
  }

  /** Polynomials whose coefficients are told modulo a prime: rows of them, by their numbers. */
  private static final class Prime {
    /** The greatest prime below 2^30, and the next one: those below are looked for on need. */
    private static final int FIRST = 1073741789;
    private static final int SECOND = 1073741783;
    private static final int WIDTH = 24;
    /** The rows 0 .. 9 have the factors, the next ten what lifts each; these are the others. */
    private static final int LIFT = 10;
    private static final int WHOLE = 20;
    private static final int TURN = 21;
    private static final int A = 22;
    private static final int B = 23;
    private static final int BASE = 24;
    private static final int ERROR = 25;
    private static final int STEP = 26;
    private static final int T = 27;
    final long[][] row = new long[28][WIDTH];
    /** The degree of each row, -1 for 0. */
    final int[] deg = new int[28];
    final long[] wide = new long[2 * WIDTH];
    long p = FIRST;
    int count;

    /**
     * Takes f as it is modulo a prime: whether its degree stays and no factor is there twice. The
     * turns 0, 1, .. have ever lower primes, without an end: any few of them may be unfit for f.
     */
    boolean take(Poly f, int turn) {
      p = turn == 0 ? FIRST : turn == 1 ? SECOND : primeBelow(p);
      for (int i = 0; i < f.n && i < WIDTH; i++) {
        row[WHOLE][i] = f.c[i].residue((int) p);
      }
      deg[WHOLE] = Math.min(f.n, WIDTH) - 1;
      trim(WHOLE);
      if (deg[WHOLE] != f.n - 1 || f.n < 2) {
        return false;
      }
      monic(WHOLE);
      copy(A, WHOLE);
      for (int i = 0; i < deg[WHOLE]; i++) {
        row[B][i] = row[WHOLE][i + 1] * (i + 1) % p;
      }
      deg[B] = deg[WHOLE] - 1;
      trim(B);
      gcd(A, B);
      return deg[A] == 0;
    }

    /** The next prime below q, which is odd; q itself if there is none. */
    private static long primeBelow(long q) {
      for (long less = q - 2; less > 2; less -= 2) {
        if (isPrime(less)) {
          return less;
        }
      }
      return q;
    }

    /** Whether q, odd and above 2, is a prime. */
    private static boolean isPrime(long q) {
      for (long by = 3; by * by <= q; by += 2) {
        if (q % by == 0) {
          return false;
        }
      }
      return true;
    }

    /** Splits what was taken into its irreducible factors, the rows 0 .. count-1. */
    void split() {
      count = 0;
      setLine(TURN, 0);
      for (int d = 1; 2 * d <= deg[WHOLE]; d++) {
        raise(TURN, TURN, p, WHOLE);
        copy(A, TURN);
        shiftBy(A, 1, p - 1);
        copy(B, WHOLE);
        gcd(A, B);
        if (deg[A] > 0) {
          copy(count, A);
          copy(B, WHOLE);
          divide(WHOLE, B, A);
          rest(TURN, WHOLE);
          splitEven(d);
        }
      }
      if (deg[WHOLE] > 0) {
        copy(count, WHOLE);
        count++;
      }
    }

    /** The row at count is a product of factors of degree d: splits it into them. */
    private void splitEven(int d) {
      int first = count;
      count++;
      for (int i = first; i < count; i++) {
        for (int s = 0; s < FAR && deg[i] > d; s++) {
          setLine(T, s);
          raise(T, T, (p - 1) / 2, i);
          copy(A, T);
          for (int j = 1; j < d; j++) {
            raise(T, T, p, i);
            multiply(A, A, T, i);
          }
          shiftBy(A, 0, p - 1);
          copy(B, i);
          gcd(A, B);
          if (deg[A] > 0 && deg[A] < deg[i] && count < LIFT) {
            copy(B, i);
            divide(count, B, A);
            copy(i, A);
            count++;
          }
        }
      }
    }

    /** For each factor the inverse, modulo it, of lead and of all the others' product. */
    void prepareLift(int lead) {
      for (int i = 0; i < count; i++) {
        setNumber(T, lead);
        for (int j = 0; j < count; j++) {
          if (j != i) {
            multiply(T, T, j, i);
          }
        }
        invert(LIFT + i, T, i);
      }
    }

    private void invert(int to, int a, int m) {
      copy(A, m);
      copy(B, a);
      setNumber(BASE, 0);
      setNumber(to, 1);
      for (int i = 0; i < WIDTH && deg[B] > 0; i++) {
        long by = inverse(row[B][deg[B]]);
        for (int e = deg[A] - deg[B]; e >= 0; e--) {
          long f = row[A][e + deg[B]] * by % p;
          takeAway(A, B, f, e);
          takeAway(BASE, to, f, e);
        }
        trim(A);
        trim(BASE);
        swap(A, B);
        swap(BASE, to);
      }
      long by = deg[B] < 0 ? 0 : inverse(row[B][0]);
      for (int i = 0; i <= deg[to]; i++) {
        row[to][i] = row[to][i] * by % p;
      }
    }

    /** From row a on, row b times f and x^e less; a's degree may be too high then. */
    private void takeAway(int a, int b, long f, int e) {
      for (int i = deg[a] + 1; i <= deg[b] + e && i < WIDTH; i++) {
        row[a][i] = 0;
        deg[a] = i;
      }
      for (int i = 0; i <= deg[b] && i + e < WIDTH; i++) {
        row[a][i + e] = (row[a][i + e] + (p - f) * row[b][i]) % p;
      }
    }

    private void setNumber(int a, long v) {
      row[a][0] = v % p;
      deg[a] = row[a][0] == 0 ? -1 : 0;
    }

    private void setLine(int a, int v) {
      row[a][0] = v;
      row[a][1] = 1;
      deg[a] = 1;
    }

    /** Adds v times x^i. */
    private void shiftBy(int a, int i, long v) {
      for (int j = deg[a] + 1; j <= i; j++) {
        row[a][j] = 0;
      }
      deg[a] = Math.max(deg[a], i);
      row[a][i] = (row[a][i] + v) % p;
      trim(a);
    }

    void trim(int a) {
      while (deg[a] >= 0 && row[a][deg[a]] == 0) {
        deg[a]--;
      }
    }

    private void copy(int to, int a) {
      System.arraycopy(row[a], 0, row[to], 0, WIDTH);
      deg[to] = deg[a];
    }

    private void swap(int a, int b) {
      long[] r = row[a];
      row[a] = row[b];
      row[b] = r;
      int d = deg[a];
      deg[a] = deg[b];
      deg[b] = d;
    }

    private long inverse(long v) {
      long power = 1;
      long square = v;
      for (long e = p - 2; e > 0; e >>= 1) {
        if ((e & 1) == 1) {
          power = power * square % p;
        }
        square = square * square % p;
      }
      return power;
    }

    private void monic(int a) {
      if (deg[a] < 0) {
        return;
      }
      long by = inverse(row[a][deg[a]]);
      for (int i = 0; i <= deg[a]; i++) {
        row[a][i] = row[a][i] * by % p;
      }
    }

    /** a's remainder by m, whose highest coefficient is 1. */
    private void rest(int a, int m) {
      for (int e = deg[a] - deg[m]; e >= 0 && deg[m] >= 0; e--) {
        takeAway(a, m, row[a][e + deg[m]], e);
      }
      trim(a);
    }

    /** The greatest common divisor comes to a, monic; b is lost. */
    private void gcd(int a, int b) {
      for (int i = 0; i < 2 * WIDTH && deg[b] >= 0; i++) {
        monic(b);
        rest(a, b);
        swap(a, b);
      }
      monic(a);
    }

    /** a divided by m, whose highest coefficient is 1, comes to q; a is lost. */
    private void divide(int q, int a, int m) {
      int top = deg[a] - deg[m];
      for (int e = top; e >= 0; e--) {
        long f = row[a][e + deg[m]];
        takeAway(a, m, f, e);
        row[q][e] = f;
      }
      deg[q] = top;
    }

    /** a times b modulo m, whose highest coefficient is 1. */
    void multiply(int to, int a, int b, int m) {
      long[] product = wide;
      long[] by = row[b];
      long[] less = row[m];
      int last = deg[b];
      int n = deg[m];
      int top = Math.max(n, deg[a] + last);
      for (int e = 0; e <= top; e++) {
        product[e] = 0;
      }
      for (int i = 0; i <= deg[a]; i++) {
        long f = row[a][i];
        for (int j = 0; j <= last; j++) {
          product[i + j] = (product[i + j] + f * by[j]) % p;
        }
      }
      for (int e = top; e >= n && n >= 0; e--) {
        long f = p - product[e];
        for (int j = 0; j < n; j++) {
          product[e - n + j] = (product[e - n + j] + f * less[j]) % p;
        }
      }
      for (int e = 0; e < n; e++) {
        row[to][e] = product[e];
      }
      deg[to] = n - 1;
      trim(to);
    }

    /** a to the power e modulo m. */
    private void raise(int to, int a, long e, int m) {
      copy(BASE, a);
      setNumber(to, 1);
      for (int bit = LIMB - 1; bit >= 0; bit--) {
        multiply(to, to, to, m);
        if ((e >> bit & 1) == 1) {
          multiply(to, to, BASE, m);
        }
      }
    }
  }

  /** Splits a polynomial in x into irreducible ones. */
  private static final class Splitter {
    private static final int MOST = 12;
    final Desk desk;
    final Prime prime = new Prime();
    final Poly[] found = new Poly[MOST];
    final int[] often = new int[MOST];
    int count;
    final Poly[] lifted = new Poly[MOST];
    final Poly whole;
    final Poly rest;
    final Poly part;
    final Poly trial;
    final Poly slope;
    final Big modulus = new Big();
    final Big next = new Big();
    final Big value = new Big();

    Splitter(Desk desk) {
      this.desk = desk;
      whole = new Poly(desk);
      rest = new Poly(desk);
      part = new Poly(desk);
      trial = new Poly(desk);
      slope = new Poly(desk);
      for (int i = 0; i < MOST; i++) {
        found[i] = new Poly(desk);
        lifted[i] = new Poly(desk);
      }
    }

    /** The factors of f, which is not 0, in their order, each with how often it divides f. */
    void run(Poly f) {
      count = 0;
      whole.copy(f);
      whole.primitive();
      rest.copy(whole);
      if (rest.n > 0 && rest.c[0].s == 0) {
        takeLine();
      }
      boolean fit = prime.take(rest, 0) || prime.take(rest, 1);
      if (!fit && rest.n > 2) {
        slope.slope(rest);
        lifted[0].gcd(rest, slope, part, trial);
        part.quotient(rest, lifted[0]);
        rest.copy(part);
        // an unfit prime divides the discriminant or the highest coefficient, neither of them 0:
        // they have some 6000 digits at most, so fewer than a thousand of the primes are unfit
        for (int turn = 0; turn < FAR && !fit; turn++) {
          fit = prime.take(rest, turn);
        }
      }
      if (fit && rest.n > 2) {
        prime.split();
        if (prime.count > 1) {
          lift();
          combine();
        }
      }
      if (rest.n > 1) {
        add(rest);
      }
      countAll();
    }

    /** Takes f, known to be irreducible but for a number that divides it, as the only factor. */
    void takeWhole(Poly f) {
      found[0].copy(f);
      found[0].primitive();
      often[0] = 1;
      count = 1;
    }

    /** The factor x, taken out ahead, so that the others' last coefficients are not 0. */
    private void takeLine() {
      int low = 0;
      while (low < rest.n && rest.c[low].s == 0) {
        low++;
      }
      for (int i = low; i < rest.n; i++) {
        rest.c[i - low].copy(rest.c[i]);
      }
      rest.n -= low;
      part.put(0);
      part.add(desk.one, 1);
      add(part);
    }

    private void add(Poly f) {
      if (count < MOST) {
        found[count].copy(f);
        count++;
      }
    }

    /** Lifts the factors modulo a power of the prime above twice all that a factor can have. */
    private void lift() {
      int lead = rest.n - 1;
      int bound = 0;
      for (int i = 0; i < rest.n; i++) {
        bound = Math.max(bound, rest.c[i].bits());
      }
      bound += rest.n + 4;
      prime.prepareLift(rest.c[lead].residue((int) prime.p));
      for (int i = 0; i < prime.count; i++) {
        lifted[i].n = 0;
        for (int j = 0; j <= prime.deg[i]; j++) {
          value.put(prime.row[i][j]);
          lifted[i].add(value, j);
        }
      }
      modulus.put(prime.p);
      for (int step = 0; step < FAR && modulus.bits() <= bound; step++) {
        value.put(prime.p);
        next.product(modulus, value);
        measureError();
        for (int i = 0; i < prime.count; i++) {
          prime.multiply(Prime.STEP, Prime.ERROR, Prime.LIFT + i, i);
          for (int j = 0; j <= prime.deg[Prime.STEP]; j++) {
            value.put(prime.row[Prime.STEP][j]);
            desk.g.product(value, modulus);
            lifted[i].add(desk.g, j);
          }
        }
        modulus.copy(next);
      }
    }

    /** How far the lifted factors' product is from the whole, in the modulus, as a row. */
    private void measureError() {
      part.put(1);
      part.c[0].copy(rest.c[rest.n - 1]);
      for (int i = 0; i < prime.count; i++) {
        trial.n = 0;
        trial.addProduct(part, lifted[i], 1);
        trial.modulo(next);
        part.copy(trial);
      }
      int top = rest.n - 2;
      for (int j = 0; j <= top; j++) {
        value.copy(rest.c[j]);
        if (j < part.n) {
          value.sum(value, part.c[j], -1);
        }
        desk.g.divide(value, modulus, desk.h);
        prime.row[Prime.ERROR][j] = desk.g.residue((int) prime.p);
      }
      prime.deg[Prime.ERROR] = top;
      prime.trim(Prime.ERROR);
    }

    /** Tries products of ever more lifted factors: those that divide the rest are found. */
    private void combine() {
      int left = (1 << prime.count) - 1;
      for (int size = 1; 2 * size <= Integer.bitCount(left); size++) {
        for (int set = 1; set < 1 << prime.count; set++) {
          boolean open = (set & left) == set && Integer.bitCount(set) == size;
          if (open && 2 * size <= Integer.bitCount(left) && mayDivide(set)) {
            multiplyOut(set);
            trial.primitive();
            if (part.quotient(rest, trial)) {
              add(trial);
              rest.copy(part);
              left &= ~set;
            }
          }
        }
      }
    }

    /** Whether the last coefficient that such a factor would have can divide the rest's. */
    private boolean mayDivide(int set) {
      value.copy(rest.c[rest.n - 1]);
      for (int i = 0; i < prime.count; i++) {
        if ((set >> i & 1) == 1) {
          desk.f.product(value, lifted[i].c[0]);
          desk.g.divide(desk.f, modulus, value);
        }
      }
      center(value);
      if (value.s == 0) {
        return false;
      }
      desk.f.product(rest.c[rest.n - 1], rest.c[0]);
      desk.g.divide(desk.f, value, desk.h);
      return desk.h.s == 0;
    }

    /** The one nearest to 0 of the numbers that are v modulo the modulus. */
    private void center(Big v) {
      desk.h.left(v, 1);
      if (desk.h.sizeOrder(modulus) > 0) {
        v.sum(v, modulus, -v.s);
      }
    }

    private void multiplyOut(int set) {
      trial.put(1);
      trial.c[0].copy(rest.c[rest.n - 1]);
      for (int i = 0; i < prime.count; i++) {
        if ((set >> i & 1) == 1) {
          part.n = 0;
          part.addProduct(trial, lifted[i], 1);
          part.modulo(modulus);
          trial.copy(part);
        }
      }
      for (int j = 0; j < trial.n; j++) {
        center(trial.c[j]);
      }
    }

    /** Counts how often each factor divides the whole, and puts them into their order. */
    private void countAll() {
      for (int i = 0; i < count; i++) {
        Poly f = found[i];
        int divides = 0;
        while (divides < FAR && whole.n > 1 && part.quotient(whole, f)) {
          whole.copy(part);
          divides++;
        }
        int place = i;
        while (place > 0 && f.order(found[place - 1]) < 0) {
          found[place] = found[place - 1];
          often[place] = often[place - 1];
          place--;
        }
        found[place] = f;
        often[place] = divides;
      }
    }
  }

  /** A real number: the only root of m, which is irreducible, from c/2^k on and below (c+1)/2^k. */
  private static final class Real {
    private static final int COARSE = 60;
    final Desk desk;
    final Poly m;
    final Big c = new Big();
    int k;
    /** After a sign that is not 0: the size asked is at least 2^floor and below 2^ceil. */
    int floor;
    int ceil;

    Real(Desk desk) {
      this.desk = desk;
      m = new Poly(desk);
    }

    void copy(Real r) {
      place(r.m, r.c, r.k);
    }

    void place(Poly f, Big at, int level) {
      m.copy(f);
      c.copy(at);
      k = level;
      if (desk.owner == this) {
        desk.owner = null;
      }
    }

    boolean isZero() {
      return m.n == 2 && m.c[0].s == 0;
    }

    /** Becomes e/2^level; level is not below 0. */
    void placeFraction(Big e, int level) {
      m.n = 0;
      desk.h.left(desk.one, level);
      m.add(desk.h, 1);
      desk.h.copy(e);
      desk.h.s = -e.s;
      m.add(desk.h, 0);
      c.right(e, level);
      k = 0;
      if (desk.owner == this) {
        desk.owner = null;
      }
    }

    /** Makes sure that its place is known to 1/2^level at least. */
    void refine(int level) {
      if (m.n == 2) {
        refineFraction(level);
      } else {
        refineRoot(level);
      }
    }

    private void refineFraction(int level) {
      if (k >= level) {
        return;
      }
      Big e = desk.narrow[0];
      Big q = desk.narrow[1];
      Big r = desk.narrow[2];
      e.left(m.c[0], level);
      e.s = -e.s;
      q.divide(e, m.c[1], r);
      c.copy(q);
      if (r.s < 0) {
        c.sum(q, desk.one, -1);
      }
      k = level;
    }

    /** Narrows its place by halves, or, while that goes well, to where a chord meets 0. */
    private void refineRoot(int level) {
      Big fl = desk.narrow[0];
      Big fr = desk.narrow[1];
      Big fm = desk.narrow[2];
      Big e = desk.narrow[3];
      Big q = desk.narrow[4];
      Big r = desk.narrow[5];
      int leap = 1;
      for (int step = 0; step < FAR && k < level; step++) {
        // ahead of whole numbers the ends are taken at level 0
        int up = Math.max(0, -k);
        int at = Math.max(0, k);
        e.left(c, up);
        m.valueAt(e, at, fl);
        leap = k < 0 ? 1 : Math.min(leap, level - k);
        if (leap > 1) {
          e.sum(c, desk.one, 1);
          m.valueAt(e, at, fr);
          fr.sum(fl, fr, -1);
          fl.left(fl, leap + 1);
          q.divide(fl, fr, r);
          q.sum(q, desk.one, 1);
          q.right(q, 1);
        } else {
          q.copy(desk.one);
        }
        e.left(c, leap);
        e.sum(e, q, 1);
        // e is the guess: the root is just above or just below it, if the guess was good
        int finer = k + leap;
        r.left(e, Math.max(0, -finer));
        m.valueAt(r, Math.max(0, finer), fm);
        boolean above = fm.s == fl.s;
        if (!above) {
          e.sum(e, desk.one, -1);
        }
        boolean good = leap == 1;
        if (!good) {
          r.copy(e);
          if (above) {
            r.sum(e, desk.one, 1);
          }
          m.valueAt(r, finer, fm);
          good = above != (fm.s == fl.s);
        }
        if (good) {
          c.copy(e);
          k = finer;
          leap *= 2;
        } else {
          leap /= 2;
        }
      }
    }

    /** The sign of f at this number: by bounds, and if these can't tell, by whether m divides f. */
    int sign(Poly f) {
      if (f.n < 2) {
        ceil = f.n == 0 ? 0 : f.c[0].bits();
        floor = ceil - 1;
        return f.n == 0 ? 0 : f.c[0].s;
      }
      Big low = desk.low;
      Big high = desk.high;
      int level = COARSE;
      for (int round = 0; round < 16; round++) {
        if (m.n == 2) {
          refineFraction(level);
        } else {
          refineRoot(level);
        }
        if (desk.owner != this || desk.tableLevel != level || desk.tableSize < f.n) {
          fillTable(f.n, level);
        }
        low.put(0);
        high.put(0);
        for (int i = 0; i < f.n; i++) {
          Big v = f.c[i];
          int turn = c.s < 0 && i % 2 == 1 ? -1 : 1;
          boolean up = v.s * turn > 0;
          desk.f.product(v, up ? desk.under[i] : desk.over[i]);
          low.sum(low, desk.f, turn);
          desk.f.product(v, up ? desk.over[i] : desk.under[i]);
          high.sum(high, desk.f, turn);
        }
        if (low.s == high.s && low.s != 0) {
          ceil = Math.max(low.bits(), high.bits()) - level;
          floor = Math.min(low.bits(), high.bits()) - 1 - level;
          return low.s;
        }
        if (round == 0 && m.divides(f)) {
          return 0;
        }
        level *= 2;
      }
      return 0;
    }

    /** Bounds of its size's first powers, so that each sign needs but one product a term. */
    private void fillTable(int powers, int level) {
      desk.under = Desk.row(desk.under, powers);
      desk.over = Desk.row(desk.over, powers);
      Big from = desk.narrow[6];
      Big to = desk.narrow[7];
      from.right(c, k - level);
      to.sum(from, desk.one, 1);
      if (c.s < 0) {
        from.s = -from.s;
        to.s = -to.s;
        desk.f.copy(from);
        from.copy(to);
        to.copy(desk.f);
      }
      desk.under[0].left(desk.one, level);
      desk.over[0].copy(desk.under[0]);
      for (int i = 1; i < powers; i++) {
        desk.f.product(desk.under[i - 1], from);
        desk.under[i].right(desk.f, level);
        desk.f.product(desk.over[i - 1], to);
        desk.over[i].right(desk.f, level);
        desk.over[i].sum(desk.over[i], desk.one, 1);
      }
      desk.owner = this;
      desk.tableLevel = level;
      desk.tableSize = powers;
    }

    /** -1, 0 or 1, as it is less than r, the same, or greater: their places are apart then. */
    int order(Real r) {
      int level = Math.max(k, r.k);
      if (m.isSame(r.m)) {
        refine(level);
        r.refine(level);
        return c.order(r.c);
      }
      level = Math.min(k, r.k);
      int by = 0;
      for (int round = 0; round < 16 && by == 0; round++) {
        refine(level);
        r.refine(level);
        desk.low.right(c, k - level);
        desk.high.right(r.c, r.k - level);
        by = desk.low.order(desk.high);
        level = Math.max(COARSE, 2 * level);
      }
      return by;
    }
  }

  /**
   * What curves are on the line of all points with one x: polynomials in y alone, whose
   * coefficients are polynomials in x, told at that number.
   */
  private static final class Line {
    private static final int MOST = 32;
    final Minors minors;
    /** The x of the line. */
    Real at;
    final Curve[] shape = new Curve[3];
    /** With the same roots on the line as the shape, each of them once. */
    final Curve[] core = new Curve[3];
    final Curve slope;
    final Curve common;
    final Poly[] work = new Poly[10];
    final Big here = new Big();
    final Big there = new Big();
    final Big[] scale = new Big[4];
    /** The sign at the left end of the interval that was asked last. */
    int leftSign;
    final Big[] c = new Big[MOST];
    final int[] k = new int[MOST];
    /** The sign of its core at the interval's left end: 0 if that end is the root. */
    final int[] side = new int[MOST];
    final int[] owner = new int[MOST];
    /** The first root that is the same number. */
    final int[] twin = new int[MOST];
    int count;
    /** The different roots, ascending. */
    final int[] rank = new int[MOST];
    int ranks;
    /** The sign of each shape where that was asked last. */
    final int[] signs = new int[3];

    Line(Desk desk) {
      minors = new Minors(desk);
      for (int i = 0; i < 3; i++) {
        shape[i] = new Curve(desk, 4);
        core[i] = new Curve(desk, 4);
      }
      slope = new Curve(desk, 4);
      common = new Curve(desk, 4);
      for (int i = 0; i < work.length; i++) {
        work[i] = new Poly(desk);
      }
      for (int i = 0; i < scale.length; i++) {
        scale[i] = new Big();
      }
      for (int i = 0; i < MOST; i++) {
        c[i] = new Big();
      }
    }

    /** Goes to the line with that x; no curve is on it yet. */
    void start(Real x) {
      at = x;
      count = 0;
      ranks = 0;
      if (x.m.n != 2) {
        return;
      }
      // a fraction a/b is put in at once: scale has a^i b^(3-i), and a sign stays as b is above 0
      Poly m = x.m;
      for (int i = 0; i < 4; i++) {
        scale[i].put(1);
        for (int j = 0; j < 3; j++) {
          here.product(scale[i], j < i ? m.c[0] : m.c[1]);
          scale[i].copy(here);
          scale[i].s *= j < i ? -1 : 1;
        }
      }
    }

    /** Makes a curve, SMALL, the shape i: what is 0 on the line at its top is taken off. */
    void load(int i, Curve f) {
      Curve to = shape[i];
      to.copy(f);
      for (int j = 0; j < 4 && at.m.n == 2; j++) {
        here.put(0);
        for (int e = 0; e < to.c[j].n && e < 4; e++) {
          there.product(to.c[j].c[e], scale[e]);
          here.sum(here, there, 1);
        }
        to.c[j].n = 0;
        to.c[j].add(here, 0);
      }
      for (int j = 3; j >= 0 && at.sign(to.c[j]) == 0; j--) {
        to.c[j].n = 0;
      }
    }

    /** Of two curves as they are on the line the greatest common divisor, in common: its degree. */
    int findCommon(Curve f, Curve g) {
      int m = f.degree();
      int n = g.degree();
      for (int j = 0; j < m && j < n; j++) {
        Poly top = minors.run(minors.lay(f, g, j, j));
        if (at.sign(top) != 0) {
          common.clear();
          for (int i = 0; i <= j; i++) {
            common.c[i].copy(minors.run(minors.lay(f, g, j, i)));
          }
          return j;
        }
      }
      common.copy(m < 0 || n >= 0 && n < m ? g : f);
      return common.degree();
    }

    /** Makes the core i of the shape i; simple tells that no root is there twice. */
    void pare(int i, boolean simple) {
      Curve f = shape[i];
      core[i].copy(f);
      int d = f.degree();
      if (d < 2 || simple) {
        return;
      }
      slope.slopeY(f);
      int shared = findCommon(f, slope);
      if (shared == 0) {
        return;
      }
      if (shared == d - 1) {
        // one root alone: the derivative of degree 1 has it
        core[i].copy(slope);
        if (d == 3) {
          core[i].slopeY(slope);
        }
        return;
      }
      // a double root, that of s y + t, and another: the quotient by s y + t has both
      Poly s = common.c[1];
      Poly t = common.c[0];
      Poly mixed = work[0];
      Poly square = work[1];
      mixed.n = 0;
      mixed.addProduct(f.c[2], s, 1);
      mixed.addProduct(f.c[3], t, -1);
      square.n = 0;
      square.addProduct(s, s, 1);
      core[i].clear();
      core[i].c[2].addProduct(f.c[3], square, 1);
      core[i].c[1].addProduct(s, mixed, 1);
      core[i].c[0].addProduct(f.c[1], square, 1);
      core[i].c[0].addProduct(t, mixed, -1);
    }

    /**
     * Descartes' bound of f's roots from e/2^level on and below (e+1)/2^level: as many as there
     * are, or more by an even number.
     */
    int bound(Curve f, Big e, int level) {
      int d = f.degree();
      for (int i = 0; i <= d; i++) {
        work[i].copy(f.c[i]);
        work[i].lift(level >= 0 ? level * (d - i) : -level * i);
      }
      for (int j = 0; j < d; j++) {
        for (int i = d - 1; i >= j; i--) {
          work[i].addScaled(work[i + 1], e);
        }
      }
      for (int j = 0; j < d; j++) {
        for (int i = 1; i <= d - j; i++) {
          work[i].addAll(work[i - 1], 1);
        }
      }
      leftSign = d < 0 ? 0 : at.sign(work[0]);
      int changes = leftSign == 0 ? 1 : 0;
      int before = leftSign;
      for (int i = 1; i <= d; i++) {
        int sign = at.sign(work[i]);
        if (sign * before < 0) {
          changes++;
        }
        before = sign != 0 ? sign : before;
      }
      return changes;
    }

    /** The roots of f on the line, none of them double, come behind those that are there. */
    void isolate(Curve f, int who) {
      int reach = reach(f);
      here.put(-1);
      int level = -reach;
      for (int step = 0; step < FAR && f.degree() > 0; step++) {
        int most = bound(f, here, level);
        if (most > 1) {
          here.left(here, 1);
          level++;
          continue;
        }
        if (most == 1 && count < MOST) {
          c[count].copy(here);
          k[count] = level;
          side[count] = leftSign;
          owner[count] = who;
          twin[count] = count;
          count++;
        }
        here.sum(here, at.desk.one, 1);
        while (level > -reach && here.isEven()) {
          here.right(here, 1);
          level--;
        }
        if (level == -reach && here.s > 0) {
          break;
        }
      }
    }

    /** All roots of f on the line lie between -2^reach and 2^reach (Knuth's bound). */
    private int reach(Curve f) {
      int d = f.degree();
      int reach = 0;
      if (d < 1 || at.sign(f.c[d]) == 0) {
        return reach;
      }
      int floor = at.floor;
      for (int i = 0; i < d; i++) {
        if (at.sign(f.c[i]) != 0) {
          reach = Math.max(reach, 1 + Math.floorDiv(at.ceil - floor + d - i - 1, d - i));
        }
      }
      return reach;
    }

    /** Finds which roots of the cores i and j are the same: those of their common divisor. */
    void match(int i, int j) {
      if (core[i].degree() < 1 || core[j].degree() < 1 || findCommon(core[i], core[j]) < 1) {
        return;
      }
      int b = 0;
      for (int a = 0; a < count; a++) {
        if (owner[a] != i || bound(common, c[a], k[a]) % 2 == 0) {
          continue;
        }
        // in both cores the common roots stand in the same order
        while (b < count && (owner[b] != j || bound(common, c[b], k[b]) % 2 == 0)) {
          b++;
        }
        if (b < count) {
          twin[b] = twin[a];
          b++;
        }
      }
    }

    /** Orders the different roots, each interval narrowed until it is apart from the others. */
    void arrange() {
      for (int r = 0; r < count; r++) {
        if (twin[r] != r) {
          continue;
        }
        int place = ranks;
        for (int i = ranks - 1; i >= 0; i--) {
          int other = rank[i];
          int apart = apart(r, other);
          for (int step = 0; step < FAR && apart == 0; step++) {
            boolean wide = k[r] <= k[other];
            if (k[other] <= k[r]) {
              narrow(other);
            }
            if (wide) {
              narrow(r);
            }
            apart = apart(r, other);
          }
          if (apart > 0) {
            break;
          }
          place = i;
        }
        for (int i = ranks; i > place; i--) {
          rank[i] = rank[i - 1];
        }
        rank[place] = r;
        ranks++;
      }
    }

    /** -1 or 1 if root r's interval ends before root q's begins, or the other way; otherwise 0. */
    private int apart(int r, int q) {
      int level = Math.max(k[r], k[q]);
      here.sum(c[r], at.desk.one, 1);
      here.left(here, level - k[r]);
      there.left(c[q], level - k[q]);
      if (here.order(there) < 0) {
        return -1;
      }
      here.sum(c[q], at.desk.one, 1);
      here.left(here, level - k[q]);
      there.left(c[r], level - k[r]);
      return here.order(there) < 0 ? 1 : 0;
    }

    private void narrow(int r) {
      c[r].left(c[r], 1);
      k[r]++;
      if (side[r] == 0) {
        return;
      }
      here.sum(c[r], at.desk.one, 1);
      int sign = at.sign(valueAt(core[owner[r]], here, k[r]));
      if (sign == 0 || sign == side[r]) {
        c[r].copy(here);
        side[r] = sign;
      }
    }

    /** A curve's value on the line at y = e/2^level, scaled by what is above 0. */
    private Poly valueAt(Curve f, Big e, int level) {
      int d = f.degree();
      Poly value = work[0];
      Poly other = work[1];
      value.n = 0;
      there.left(e, Math.max(0, -level));
      for (int i = d; i >= 0; i--) {
        other.n = 0;
        other.addScaled(value, there);
        work[2].copy(f.c[i]);
        work[2].lift(Math.max(0, level) * (d - i));
        other.addAll(work[2], 1);
        Poly was = value;
        value = other;
        other = was;
      }
      return value;
    }

    /** The signs of all shapes just above root number i, or below all of them for -1. */
    void findSigns(int i, int shapes) {
      here.put(0);
      int level = 0;
      if (ranks > 0) {
        int r = rank[Math.max(0, i)];
        here.sum(c[r], at.desk.one, i < 0 ? -1 : 1);
        level = k[r];
      }
      for (int j = 0; j < shapes; j++) {
        signs[j] = at.sign(valueAt(shape[j], here, level));
      }
    }

    boolean hasRoot(int i, int who) {
      boolean has = false;
      for (int r = 0; r < count && !has; r++) {
        has = owner[r] == who && twin[r] == rank[i];
      }
      return has;
    }
  }

  /** The real line cut at finitely many places, and the plane into columns above the pieces. */
  private static final class Cells {
    /** So fine are places found at once: then most of them are ordered without more work. */
    private static final int FINE = 32;
    final Splitter splitter;
    final Line line;
    final Poly spare;
    final Poly other;
    final Curve[] curve = new Curve[3];
    int curves;
    /** The resultants of the curves 0 and 1, 0 and 2, 1 and 2, then of each and its derivative. */
    final Poly[] meet = new Poly[6];
    /** What is 0 wherever the columns' number of roots may change. */
    final Poly[] shadow = new Poly[9];
    int shadows;
    final Poly[] base = new Poly[MANY];
    final int[] baseTimes = new int[MANY];
    int bases;
    final Real[] mark = new Real[MANY];
    final int[] often = new int[MANY];
    int marks;
    final Real[] column = new Real[MANY];
    int columns;
    final Curve tie;
    final Curve flat;
    final Real probe;

    Cells(Desk desk) {
      splitter = new Splitter(desk);
      line = new Line(desk);
      spare = new Poly(desk);
      other = new Poly(desk);
      tie = new Curve(desk, 10);
      flat = new Curve(desk, 10);
      probe = new Real(desk);
      for (int i = 0; i < curve.length; i++) {
        curve[i] = new Curve(desk, 4);
      }
      for (int i = 0; i < meet.length; i++) {
        meet[i] = new Poly(desk);
      }
      for (int i = 0; i < shadow.length; i++) {
        shadow[i] = new Poly(desk);
      }
      for (int i = 0; i < MANY; i++) {
        base[i] = new Poly(desk);
        mark[i] = new Real(desk);
        column[i] = new Real(desk);
      }
    }

    void clear() {
      bases = 0;
      marks = 0;
    }

    /** Takes the factors that were found last, but for those that are here. */
    void adopt() {
      for (int i = 0; i < splitter.count && bases < MANY; i++) {
        boolean isNew = true;
        for (int j = 0; j < bases && isNew; j++) {
          isNew = !base[j].isSame(splitter.found[i]);
        }
        if (isNew) {
          base[bases].copy(splitter.found[i]);
          baseTimes[bases] = splitter.often[i];
          bases++;
        }
      }
    }

    /** The real roots of all factors, in their order. */
    void collect() {
      marks = 0;
      for (int b = 0; b < bases; b++) {
        line.here.put(0);
        probe.placeFraction(line.here, 0);
        line.start(probe);
        flat.clear();
        for (int i = 0; i < base[b].n && i < flat.c.length; i++) {
          flat.c[i].add(base[b].c[i], 0);
        }
        line.isolate(flat, 0);
        for (int r = 0; r < line.count && marks < MANY; r++) {
          insert(b, r);
        }
      }
    }

    private void insert(int b, int r) {
      Real x = mark[marks];
      x.place(base[b], line.c[r], line.k[r]);
      x.refine(FINE);
      int place = marks;
      while (place > 0 && x.order(mark[place - 1]) < 0) {
        mark[place] = mark[place - 1];
        often[place] = often[place - 1];
        place--;
      }
      mark[place] = x;
      often[place] = baseTimes[b];
      marks++;
    }

    Poly resultant(Curve f, Curve g) {
      if (f.degree() < 0 || g.degree() < 0) {
        spare.n = 0;
        return spare;
      }
      return line.minors.run(line.minors.lay(f, g, 0, 0));
    }

    void load(Reader r) {
      clear();
      curves = r.curves;
      for (int i = 0; i < curves; i++) {
        if (r.swapped) {
          curve[i].mirror(r.curve[i]);
        } else {
          curve[i].copy(r.curve[i]);
        }
      }
      for (int i = 0; i < meet.length; i++) {
        meet[i].n = 0;
      }
    }

    /** Between the real roots of the shadows all columns have the same signs in the same order. */
    void project() {
      shadows = 0;
      for (int i = 0; i < curves; i++) {
        int d = curve[i].degree();
        if (d >= 0) {
          shadow[shadows].copy(curve[i].c[d]);
          shadows++;
        }
        line.slope.slopeY(curve[i]);
        cast(3 + i, curve[i], line.slope);
        for (int j = 0; j < i; j++) {
          cast(i + j - 1, curve[i], curve[j]);
        }
      }
    }

    /** The first subresultant that is not 0 everywhere tells where f and g share more roots. */
    private void cast(int place, Curve f, Curve g) {
      int least = Math.min(f.degree(), g.degree());
      for (int j = 0; j < least; j++) {
        Poly p = line.minors.run(line.minors.lay(f, g, j, j));
        if (j == 0) {
          meet[place].copy(p);
        }
        if (p.n > 0) {
          shadow[shadows].copy(p);
          shadows++;
          return;
        }
      }
    }

    void splitShadows() {
      for (int i = 0; i < shadows; i++) {
        splitter.run(shadow[i]);
        adopt();
      }
    }

    /** Whether the sentence's U, with its inner quantifier, holds in a cell of the x. */
    boolean holdsAt(int cell, Reader r) {
      Real x = cell % 2 == 1 ? mark[cell / 2] : between(cell / 2);
      line.start(x);
      for (int i = 0; i < curves; i++) {
        line.load(i, curve[i]);
        line.pare(i, x.sign(meet[3 + i]) != 0);
        line.isolate(line.core[i], i);
        for (int j = 0; j < i; j++) {
          if (x.sign(meet[i + j - 1]) == 0) {
            line.match(j, i);
          }
        }
      }
      line.arrange();
      boolean all = r.inner == 'A';
      for (int i = -1; i < line.ranks; i++) {
        line.findSigns(i, curves);
        if (r.holds(line.signs) != all) {
          return !all;
        }
        for (int j = 0; j < curves && i >= 0; j++) {
          line.signs[j] = line.hasRoot(i, j) ? 0 : line.signs[j];
        }
        if (r.holds(line.signs) != all) {
          return !all;
        }
      }
      return all;
    }

    /** A fraction between the marks g-1 and g. */
    private Real between(int g) {
      Big e = line.here;
      Big low = line.there;
      e.put(0);
      int level = 0;
      if (marks > 0 && (g == 0 || g == marks)) {
        Real x = mark[g == 0 ? 0 : marks - 1];
        e.right(x.c, x.k);
        e.sum(e, x.desk.one, g == 0 ? -1 : 1);
      } else if (marks > 0) {
        Real a = mark[g - 1];
        Real b = mark[g];
        int fine = Math.max(a.k, b.k);
        for (int round = 0; round < FAR; round++) {
          a.refine(fine);
          b.refine(fine);
          low.sum(a.c, a.desk.one, 1);
          if (low.order(b.c) < 0) {
            level = simplest(low, b.c, fine, e);
            break;
          }
          fine += FINE;
        }
      }
      probe.placeFraction(e, level);
      return probe;
    }

    /** The least level at which a fraction, in e, is from low/2^fine on and below high/2^fine. */
    private int simplest(Big low, Big high, int fine, Big e) {
      low.s = -low.s;
      Big back = splitter.value;
      for (int level = 0; level <= fine; level++) {
        e.right(low, fine - level);
        e.s = -e.s;
        back.left(e, fine - level);
        if (back.order(high) < 0) {
          return level;
        }
      }
      return fine;
    }

    /** Whether the COMMON POINTS of p and q are refused. */
    boolean haveShared(Curve p, Curve q) {
      int m = p.degree();
      int n = q.degree();
      if (m < 0 || n < 0) {
        Curve f = m < 0 ? q : p;
        return f.degree() != 0 || f.c[0].n != 1;
      }
      Poly all = shadow[0];
      all.n = 0;
      for (int j = 0; j < 4; j++) {
        all.gcd(all, p.c[j], spare, other);
        all.gcd(all, q.c[j], spare, other);
      }
      return all.n > 1 || m > 0 && n > 0 && resultant(p, q).n == 0;
    }

    /** What is 0 at the x of every point that p and q have in common. */
    void castDown(Curve p, Curve q) {
      clear();
      splitter.run(resultant(p, q));
      adopt();
    }

    /** What is 0 at the y of every such point. */
    void castAside(Curve p, Curve q) {
      clear();
      curve[0].mirror(p);
      curve[1].mirror(q);
      splitter.run(resultant(curve[0], curve[1]));
      adopt();
    }

    void keepColumns() {
      columns = marks;
      for (int i = 0; i < marks; i++) {
        Real x = column[i];
        column[i] = mark[i];
        mark[i] = x;
      }
    }

    /** What p and q have in common on the line of a column. */
    void tieAt(int i, Curve p, Curve q) {
      line.start(column[i]);
      line.load(0, p);
      line.load(1, q);
      line.pare(0, false);
      line.pare(1, false);
      line.findCommon(line.core[0], line.core[1]);
      tie.copy(line.common);
    }

    /** The heights are apart and all ties' roots are among them: whether this one is. */
    boolean isTied(int j) {
      return tie.degree() > 0 && line.bound(tie, mark[j].c, mark[j].k) % 2 == 1;
    }

    int signThere(Real x, Real y, Curve bond, Curve f) {
      line.start(x);
      line.load(0, f);
      Curve shape = line.shape[0];
      if (shape.degree() < 1) {
        return x.sign(shape.c[0]);
      }
      if (line.findCommon(bond, shape) > 0 && line.bound(line.common, y.c, y.k) % 2 == 1) {
        return 0;
      }
      for (int round = 0; round < FAR && line.bound(shape, y.c, y.k) > 0; round++) {
        y.refine(y.k + FINE);
      }
      return line.leftSign;
    }

    /** A polynomial that has what is reckoned of roots of a and b among its roots. */
    Poly reckoned(int what, Poly a, Poly b) {
      flat.clear();
      for (int i = 0; i < a.n && i < flat.c.length; i++) {
        flat.c[i].add(a.c[i], 0);
      }
      tie.clear();
      Big v = splitter.value;
      int n = b.n - 1;
      for (int i = 0; i <= n && i < tie.c.length; i++) {
        if (what > 1) {
          tie.c[what == 2 ? n - i : i].add(b.c[i], what == 2 ? i : n - i);
          continue;
        }
        long choose = 1;
        for (int j = 0; j <= i; j++) {
          // of b(x-y) for a sum, of b(y-x) for a difference
          line.here.put((j + what * i) % 2 == 0 ? choose : -choose);
          v.product(b.c[i], line.here);
          tie.c[j].add(v, i - j);
          choose = choose * (i - j) / (j + 1);
        }
      }
      return resultant(flat, tie);
    }

    /** Which of the marks is what is reckoned of a and b: the only one near enough. */
    int placeOf(int what, Real a, Real b) {
      Big from = splitter.value;
      int level = FINE;
      for (int round = 0; round < 16; round++) {
        level *= 2;
        a.refine(level);
        b.refine(level);
        if (!enclose(what, a, b, level)) {
          continue;
        }
        int fine = what == 2 ? 2 * level : level;
        int place = -1;
        int near = 0;
        for (int i = 0; i < marks; i++) {
          mark[i].refine(fine);
          from.right(mark[i].c, mark[i].k - fine);
          boolean under = from.order(line.there) <= 0;
          from.sum(from, a.desk.one, 1);
          if (under && from.order(line.here) >= 0) {
            place = i;
            near++;
          }
        }
        if (near == 1) {
          return place;
        }
      }
      return -1;
    }

    /**
     * Bounds, here and there, of what is reckoned of a and b as they are known at a level: at that
     * level, but for a product, which has the double one. False if b may be 0 in a quotient.
     */
    private boolean enclose(int what, Real a, Real b, int level) {
      Big low = line.here;
      Big high = line.there;
      Big one = a.desk.one;
      Big u = line.scale[0];
      Big v = line.scale[1];
      Big w = line.scale[2];
      for (int corner = 0; corner < 4; corner++) {
        u.right(a.c, a.k - level);
        v.right(b.c, b.k - level);
        int side = v.s;
        if (corner % 2 == 1) {
          u.sum(u, one, 1);
        }
        if (corner > 1) {
          v.sum(v, one, 1);
        }
        if (what == 3 && (v.s == 0 || v.s != side)) {
          return false;
        }
        if (what < 2) {
          w.sum(u, v, what == 0 ? 1 : -1);
        } else if (what == 2) {
          w.product(u, v);
        } else {
          u.left(u, level);
          w.divide(u, v, line.scale[3]);
        }
        if (corner == 0 || w.order(low) < 0) {
          low.copy(w);
        }
        if (corner == 0 || w.order(high) > 0) {
          high.copy(w);
        }
      }
      if (what == 3) {
        // a quotient without its fraction is off by less than 1, to either side
        low.sum(low, one, -1);
        high.sum(high, one, 1);
      }
      return true;
    }
  }

  /** Reads texts: polynomials, and sentences, which become a row of steps that a stack takes. */
  private static final class Reader {
    private static final int DEEP = 20;
    private static final int NOT = -1;
    private static final int AND = -2;
    private static final int OR = -3;
    private static final int TRUE = -4;
    private static final int FALSE = -5;
    int[] text = new int[0];
    int size;
    int at;
    /** The place of the first fault, -1 while there is none. */
    int fault;
    boolean withX;
    boolean withY;
    boolean refused;
    final Curve left;
    final Curve right;
    final Curve told;
    final Curve[] curve = new Curve[3];
    int curves;
    /** What stands for all x, or the only variable's (0 if there is one alone); then for all y. */
    int outer;
    int inner;
    boolean swapped;
    /** A comparison is 8 times its curve's number, and a bit for each sign that makes it true. */
    final int[] steps = new int[TAPE];
    int stepCount;
    final int[] stack = new int[TAPE];
    int stacked;

    Reader(Desk desk) {
      left = new Curve(desk, 9);
      right = new Curve(desk, 9);
      told = new Curve(desk, 17);
      for (int i = 0; i < curve.length; i++) {
        curve[i] = new Curve(desk, 9);
      }
    }

    void begin(int[] tape, int n, boolean x, boolean y) {
      text = tape;
      size = Math.min(n, tape.length);
      at = 0;
      fault = -1;
      withX = x;
      withY = y;
      refused = false;
      curves = 0;
      stepCount = 0;
      stacked = 0;
      outer = 0;
      inner = 0;
      swapped = false;
    }

    private int next() {
      return at < size ? text[at] : -1;
    }

    private void fail() {
      if (fault < 0) {
        fault = at;
      }
    }

    private void expectEnd() {
      if (at != size) {
        fail();
      }
    }

    void readPolys(boolean both) {
      readPoly(left);
      if (both && fault < 0) {
        if (next() == ';') {
          at++;
          readPoly(right);
        } else {
          fail();
        }
      }
      expectEnd();
    }

    private void readPoly(Curve to) {
      to.clear();
      int sign = 1;
      if (next() == '-') {
        sign = -1;
        at++;
      }
      for (int i = 0; i < TAPE && fault < 0; i++) {
        readTerm(to, sign);
        int c = next();
        if (c != '+' && c != '-') {
          return;
        }
        sign = c == '-' ? -1 : 1;
        at++;
      }
    }

    private void readTerm(Curve to, int sign) {
      long v = 0;
      int from = at;
      while (at < from + 6 && next() >= '0' && next() <= '9') {
        v = 10 * v + next() - '0';
        at++;
      }
      if (at == from) {
        v = 1;
      }
      int px = 0;
      int py = 0;
      for (int i = 0; i < TAPE; i++) {
        int c = next();
        if (!(c == 'x' && withX || c == 'y' && withY)) {
          break;
        }
        int digit = at + 1 < size ? text[at + 1] - '0' : -1;
        boolean told = digit >= 0 && digit <= 9;
        int more = told ? digit : 1;
        if (px + py + more > DEGREE) {
          fail();
          return;
        }
        px += c == 'x' ? more : 0;
        py += c == 'y' ? more : 0;
        at += told ? 2 : 1;
      }
      if (at == from) {
        fail();
        return;
      }
      to.c[py].addNumber(sign * v, px);
    }

    /** Reads E or A and a variable: E or A, or 0 if neither stands there. */
    private int readQuantifier(boolean onlyY) {
      int c = next();
      if (c != 'E' && c != 'A') {
        return 0;
      }
      at++;
      int v = next();
      boolean x = v == 'x' && !withX && !onlyY;
      boolean y = v == 'y' && !withY;
      if (!x && !y) {
        fail();
        return 0;
      }
      withX = withX || x;
      withY = withY || y;
      at++;
      return c;
    }

    /** Reads what a SENTENCE begins with. */
    void readQuantifiers() {
      int first = readQuantifier(false);
      boolean xFirst = withX;
      if (first == 0) {
        fail();
        return;
      }
      int second = readQuantifier(false);
      // the last variable is to be y: one alone, too
      outer = second == 0 ? 0 : first;
      inner = second == 0 ? first : second;
      swapped = second == 0 ? xFirst : !xFirst;
    }

    /** Reads what the text of a SOLUTION may begin with. */
    void readOverY() {
      inner = readQuantifier(true);
    }

    /** Reads a U, up to the text's end: what is open, a ~, a bracket, & or |, is stacked. */
    void readFormula() {
      int deep = 0;
      for (int i = 0; i <= TAPE && fault < 0; i++) {
        int c = next();
        if (c == '~' || c == '(') {
          if (deep == DEEP) {
            fail();
            return;
          }
          deep++;
          push(c);
          at++;
          continue;
        }
        readComparison();
        deep -= closeNots();
        for (int j = 0; j < DEEP && stacked > 0 && next() == ')'; j++) {
          closeBracket();
          at++;
          deep -= 1 + closeNots();
        }
        c = next();
        if (stacked == 0) {
          expectEnd();
          return;
        }
        if (c != '&' && c != '|') {
          fail();
          return;
        }
        closeJoins(c);
        push(c);
        at++;
      }
    }

    private void push(int c) {
      if (stacked < stack.length) {
        stack[stacked] = c;
        stacked++;
      }
    }

    private void emit(int step) {
      if (stepCount < steps.length) {
        steps[stepCount] = step;
        stepCount++;
      }
    }

    /** How many ~ end with what has been read. */
    private int closeNots() {
      int before = stacked;
      while (stacked > 0 && stack[stacked - 1] == '~') {
        emit(NOT);
        stacked--;
      }
      return before - stacked;
    }

    /** Ends what binds as strongly as c at least. */
    private void closeJoins(int c) {
      while (stacked > 0) {
        int open = stack[stacked - 1];
        if (open != '&' && (open != '|' || c != '|')) {
          return;
        }
        emit(open == '&' ? AND : OR);
        stacked--;
      }
    }

    private void closeBracket() {
      closeJoins('|');
      stacked -= stacked > 0 ? 1 : 0;
    }

    private void readComparison() {
      readPoly(left);
      int signs = fault < 0 ? readRelation() : 0;
      if (fault < 0) {
        readPoly(right);
      }
      if (fault >= 0) {
        return;
      }
      left.subtract(right);
      if (!left.isSmall()) {
        refused = true;
        return;
      }
      if (left.degree() <= 0 && left.c[0].n <= 1) {
        int s = left.c[0].n == 0 ? 0 : left.c[0].c[0].s;
        emit((signs >> s + 1 & 1) == 1 ? TRUE : FALSE);
        return;
      }
      for (int i = 0; i < curves; i++) {
        if (left.isSame(curve[i], 1)) {
          emit(8 * i + signs);
          return;
        }
        if (left.isSame(curve[i], -1)) {
          emit(8 * i + (signs & 2) + (signs >> 2) + (signs & 1) * 4);
          return;
        }
      }
      if (curves == curve.length) {
        refused = true;
        return;
      }
      curve[curves].copy(left);
      emit(8 * curves + signs);
      curves++;
    }

    /** A bit for each sign of the difference that makes it true: 1 below 0, 2 for 0, 4 above. */
    private int readRelation() {
      int c = next();
      if (c != '<' && c != '>' && c != '=' && c != '#') {
        fail();
        return 0;
      }
      at++;
      int signs = c == '<' ? 1 : c == '>' ? 4 : c == '=' ? 2 : 5;
      if ((c == '<' || c == '>') && next() == '=') {
        at++;
        signs += 2;
      }
      return signs;
    }

    /** Whether what was read holds, where the curves have these signs. */
    boolean holds(int[] signs) {
      int n = 0;
      for (int i = 0; i < stepCount; i++) {
        int step = steps[i];
        if (step >= 0 || step <= TRUE) {
          boolean holds = step == TRUE;
          if (step >= 0) {
            holds = (step % 8 >> signs[step / 8] + 1 & 1) == 1;
          }
          stack[n] = holds ? 1 : 0;
          n++;
        } else if (step == NOT && n > 0) {
          stack[n - 1] = 1 - stack[n - 1];
        } else if (n > 1) {
          n--;
          stack[n - 1] = step == AND ? stack[n - 1] & stack[n] : stack[n - 1] | stack[n];
        }
      }
      return n > 0 && stack[0] == 1;
    }
  }
}
