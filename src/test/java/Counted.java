/**
 * A CoverKeys whose calls are counted: behind the 512th call nothing is promised, so that a test which asks
 * further would test nothing of the document.
 */
final class Counted {
  static final int MOST_CALLS = 512;

  private final CoverKeys keys = new CoverKeys();
  private int calls = 0;

  private CoverKeys next() {
    calls++;
    if (calls > MOST_CALLS) throw new AssertionError("the test makes more calls than an object is used for");
    return keys;
  }

  int callsLeft() {
    return MOST_CALLS - calls;
  }

  void begin(int depth, long high, long low) {
    next().begin(depth, high, low);
  }

  int install(int d) {
    return next().install(d);
  }

  boolean subscribe(int d, int channel, boolean is) {
    return next().subscribe(d, channel, is);
  }

  int period(int channel, long high, long low) {
    return next().period(channel, high, low);
  }

  int packet(int channel, int n) {
    return next().packet(channel, n);
  }

  int air(int i) {
    return next().air(i);
  }

  void flip(int i, int mask) {
    next().flip(i, mask);
  }

  int hear(int d) {
    return next().hear(d);
  }

  int has(int d, int channel) {
    return next().has(d, channel);
  }

  void seal(int channel, long i, long high, long low) {
    next().seal(channel, i, high, low);
  }

  void open(int d, int channel, long i, long high, long low) {
    next().open(d, channel, i, high, low);
  }

  long out(boolean second) {
    return next().out(second);
  }

  int subset(int channel, int n, boolean second) {
    return next().subset(channel, n, second);
  }

  long label(int d, int k, int what) {
    return next().label(d, k, what);
  }

  int reach(int d, int channel) {
    return next().reach(d, channel);
  }

  long key(int v, int w, boolean second) {
    return next().key(v, w, second);
  }

  int count(int what) {
    return next().count(what);
  }
}
