/**
 * A RealHouse that counts its calls. What it answers after the call 512 is free: a test that asks
 * for more is wrong.
 */
final class Counted {
  static final int MOST = 512;

  private final RealHouse x = new RealHouse();
  private int calls = 0;

  private RealHouse once() {
    calls++;
    if (calls == MOST + 1) {
      House.due("a house's calls", MOST, calls);
    }
    return x;
  }

  /** How many calls it may still be asked. */
  int left() {
    return MOST - calls;
  }

  int feed(int a, int b, int c, int d, int e) {
    return once().feed(a, b, c, d, e);
  }

  int out(int i) {
    return once().out(i);
  }

  int tell(int what, int n) {
    return once().tell(what, n);
  }

  int roots(int n) {
    return once().roots(n);
  }

  int times(int i) {
    return once().times(i);
  }

  int root(int i, int k) {
    return once().root(i, k);
  }

  int signAt(int i, int n) {
    return once().signAt(i, n);
  }

  int below(int i, int n) {
    return once().below(i, n);
  }

  int points(int n) {
    return once().points(n);
  }

  int point(int i, int which, int k) {
    return once().point(i, which, k);
  }

  int signAtPoint(int i, int n) {
    return once().signAtPoint(i, n);
  }

  int decide(int n) {
    return once().decide(n);
  }

  int solve(int n) {
    return once().solve(n);
  }

  int piece(int i, int what) {
    return once().piece(i, what);
  }

  int edge(int i, int which, int k) {
    return once().edge(i, which, k);
  }

  int factors(int n) {
    return once().factors(n);
  }

  int factor(int i) {
    return once().factor(i);
  }

  int power(int i) {
    return once().power(i);
  }

  int hold(int j, int i) {
    return once().hold(j, i);
  }

  int reckon(int j, int what, int a, int b) {
    return once().reckon(j, what, a, b);
  }

  int least(int j) {
    return once().least(j);
  }

  int number(int j, int k) {
    return once().number(j, k);
  }

  int compare(int a, int b) {
    return once().compare(a, b);
  }
}
