/** Each promise of the document by its number: ordinary inputs, edges, wrong inputs. */
public final class PromiseTest {
  private static int wrong = 0;
  private static int checks = 0;

  private static void due(int promise, String what, long got, long want) {
    checks++;
    if (got != want) {
      wrong++;
      System.out.println("promise " + promise + ": " + what + " answered " + got + ", due is " + want);
    }
  }

  private static void due(int promise, String what, boolean got, boolean want) {
    due(promise, what, got ? 1 : 0, want ? 1 : 0);
  }

  /** The call must throw just this, and change nothing that can be asked for. */
  private static void refused(int promise, String what, Class<?> due, CoverKeys x, Runnable call) {
    checks++;
    String before = state(x);
    Class<?> got = null;
    try {
      call.run();
    } catch (RuntimeException e) {
      got = e.getClass();
    }
    if (got != due) {
      wrong++;
      System.out.println("promise " + promise + ": " + what + " threw " + got + ", due is " + due);
    }
    if (!state(x).equals(before)) {
      wrong++;
      System.out.println("promise " + promise + ": " + what + " threw, but changed something");
    }
  }

  private static final Class<?> INDEX = IndexOutOfBoundsException.class;
  private static final Class<?> STATE = IllegalStateException.class;
  private static final Class<?> ARGUMENT = IllegalArgumentException.class;
  private static final Class<?> UNSUPPORTED = UnsupportedOperationException.class;

  private static String state(CoverKeys x) {
    StringBuilder all = new StringBuilder();
    for (int what = 0; what < 8; what++) all.append(x.count(what)).append(' ');
    all.append(x.out(false)).append(' ').append(x.out(true)).append(' ').append(x.key(0, 0, false)).append('\n');
    for (int i = 0; i < x.count(3); i++) all.append(x.air(i)).append(' ');
    for (int d = 0; d < 1 << x.count(0); d++) {
      for (int c = 0; c < 4; c++) all.append(x.has(d, c)).append(' ');
      all.append(installed(x, d));
    }
    for (int c = 0; c < 4; c++) {
      all.append('\n');
      for (int n = 0; n < subsets(x, c); n++) {
        all.append(x.subset(c, n, false)).append('-').append(x.subset(c, n, true)).append(' ');
      }
    }
    return all.toString();
  }

  private static boolean installed(CoverKeys x, int d) {
    try {
      x.label(d, 0, 0);
      return true;
    } catch (IllegalStateException e) {
      return false;
    }
  }

  private static int subsets(CoverKeys x, int channel) {
    for (int n = 0; n < 129; n++) {
      try {
        x.subset(channel, n, false);
      } catch (IllegalStateException | IndexOutOfBoundsException e) {
        return n;
      }
    }
    return 129;
  }

  private static CoverKeys tree(int depth, long high, long low) {
    CoverKeys x = new CoverKeys();
    x.begin(depth, high, low);
    return x;
  }

  private static void subscribeAll(CoverKeys x, int channel) {
    for (int d = 0; d < 1 << x.count(0); d++) x.subscribe(d, channel, true);
  }

  private static void subscribeEven(CoverKeys x, int channel) {
    for (int d = 0; d < 1 << x.count(0); d += 2) x.subscribe(d, channel, true);
  }

  /** Something of everything: 0 and 1 installed, channel 0 heard by 0, channel 1 with a period that is not on the air. */
  private static CoverKeys busy() {
    CoverKeys x = tree(3, 1, 2);
    x.install(0);
    x.install(1);
    subscribeAll(x, 0);
    x.subscribe(3, 0, false);
    x.subscribe(6, 1, true);
    x.period(1, 7, 8);
    x.period(0, 5, 6);
    x.packet(0, 0);
    x.hear(0);
    x.seal(0, 1, 2, 3);
    return x;
  }

  private static byte[] sealed(long keyHigh, long keyLow, long high, long low) {
    return Model.aes(true, Model.bytes(keyHigh, keyLow), Model.bytes(high, low));
  }

  private static byte[] next(byte[] label, int block) {
    return Model.aes(true, label, Model.bytes(0, block));
  }

  private static void newObject() {
    CoverKeys x = new CoverKeys();
    due(1, "the depth", x.count(0), 4);
    for (int what = 1; what < 8; what++) due(1, "count " + what, x.count(what), 0);
    due(1, "out", x.out(false) | x.out(true), 0);
    due(1, "the key of (0, 0)", x.key(0, 0, false), 0x66e94bd4ef8a2c3bL);
    due(1, "its second half", x.key(0, 0, true), 0x884cfa59ca342b2eL);
    for (int d = 0; d < 16; d++) due(1, "installed " + d, installed(x, d), false);
    due(1, "as behind begin(4, 0, 0)", state(x).equals(state(tree(4, 0, 0))), true);
    due(1, "NONE", CoverKeys.NONE, -1);
  }

  private static void begin() {
    for (int depth = 1; depth <= 8; depth++) {
      CoverKeys x = busy();
      long high = x.out(false);
      long low = x.out(true);
      x.begin(depth, 3, 4);
      due(2, "the depth", x.count(0), depth);
      for (int what = 1; what < 8; what++) due(2, "count " + what, x.count(what), 0);
      due(2, "the out stays", x.out(false) == high && x.out(true) == low, true);
      due(2, "the seed is new", x.key(0, 0, false), Model.half(sealed(3, 4, 0, 0), false));
      due(2, "no key is left", x.has(0, 0), -1);
      due(2, "none is installed", installed(x, 0) || installed(x, 1), false);
      due(2, "none subscribes", x.period(0, 1, 1), 0);
      x.install(0);
      due(2, "nor behind install", x.has(0, 0), -1);
    }
    CoverKeys x = busy();
    refused(2, "begin(0)", ARGUMENT, x, () -> x.begin(0, 9, 9));
    refused(2, "begin(9)", ARGUMENT, x, () -> x.begin(9, 9, 9));
    refused(2, "begin(-1)", ARGUMENT, x, () -> x.begin(-1, 9, 9));
    refused(2, "begin(largest)", ARGUMENT, x, () -> x.begin(Integer.MAX_VALUE, 9, 9));
    refused(2, "begin(least)", ARGUMENT, x, () -> x.begin(Integer.MIN_VALUE, 9, 9));
  }

  private static void install() {
    for (int depth = 1; depth <= 8; depth++) {
      CoverKeys x = tree(depth, 0, 0);
      due(3, "install(0) of depth " + depth, x.install(0), depth * (depth + 1) / 2);
      due(3, "install(last)", x.install((1 << depth) - 1), depth * (depth + 1) / 2);
      due(3, "installed", x.count(1), 2);
      refused(3, "install(behind the last)", INDEX, x, () -> x.install(1 << x.count(0)));
      refused(3, "install(-1)", INDEX, x, () -> x.install(-1));
      refused(3, "install(0) again", STATE, x, () -> x.install(0));
    }
    CoverKeys x = busy();
    refused(3, "one that has a key", STATE, x, () -> x.install(0));
    x.subscribe(4, 2, true);
    due(3, "a subscriber", x.install(4), 6);
  }

  private static void subscribe() {
    CoverKeys x = tree(2, 0, 0);
    due(4, "a new one", x.subscribe(3, 3, true), true);
    due(4, "once more", x.subscribe(3, 3, true), false);
    due(4, "of another channel", x.subscribe(3, 0, true), true);
    due(4, "one that is none", x.subscribe(2, 3, false), false);
    due(4, "all", x.count(2), 2);
    due(4, "no more", x.subscribe(3, 3, false), true);
    due(4, "no more, again", x.subscribe(3, 3, false), false);
    due(4, "all", x.count(2), 1);
    CoverKeys y = busy();
    due(4, "a header stays", y.subscribe(0, 0, false), true);
    due(4, "its subset", y.subset(0, 0, true), 11);
    for (int bad : new int[] {-1, 8, Integer.MAX_VALUE, Integer.MIN_VALUE}) {
      refused(4, "decoder " + bad, INDEX, y, () -> y.subscribe(bad, 0, true));
    }
    for (int bad : new int[] {-1, 4, Integer.MAX_VALUE, Integer.MIN_VALUE}) {
      refused(4, "channel " + bad, INDEX, y, () -> y.subscribe(0, bad, true));
    }
  }

  private static void period() {
    CoverKeys x = tree(3, 0, 0);
    due(5, "without subscribers", x.period(0, 1, 1), 0);
    subscribeAll(x, 0);
    due(5, "all subscribe", x.period(0, 1, 1), 1);
    x.subscribe(0, 0, false);
    due(5, "all but one", x.period(0, 1, 1), 1);
    x.subscribe(7, 0, false);
    due(5, "all but two", x.period(0, 1, 1), 2);
    due(5, "periods", x.count(4), 4);
    due(5, "of another channel", x.count(5), 0);
    CoverKeys deep = tree(8, 0, 0);
    subscribeEven(deep, 2);
    due(5, "every other one of 256", deep.period(2, 1, 1), 128);
    due(5, "the last subset", deep.subset(2, 127, true), 511);
    refused(5, "channel 4", INDEX, x, () -> x.period(4, 1, 1));
    refused(5, "channel -1", INDEX, x, () -> x.period(-1, 1, 1));
    CoverKeys old = tree(1, 0, 0);
    for (int p = 1; p <= 999; p++) old.period(1, p, p);
    due(5, "999 periods", old.count(5), 999);
    refused(5, "the thousandth", UNSUPPORTED, old, () -> old.period(1, 0, 0));
    refused(5, "no channel behind 999", INDEX, old, () -> old.period(4, 0, 0));
    due(5, "another channel goes on", old.period(0, 0, 0), 0);
  }

  private static void packet() {
    CoverKeys x = tree(5, 1, 2);
    subscribeEven(x, 1);
    x.subscribe(0, 1, false);
    x.subscribe(2, 1, false);
    due(6, "fourteen subsets", x.period(1, 0x0011223344556677L, 0x8899aabbccddeeffL), 14);
    due(6, "eight of them", x.packet(1, 0), 229);
    due(6, "the other six", x.packet(1, 1), 173);
    due(6, "on the air", x.count(3), 173);
    int[] head = {1, 0, 1, 1, 2};
    for (int i = 0; i < 5; i++) due(6, "byte " + i, x.air(i), head[i]);
    for (int n = 8; n < 14; n++) entry(x, 1, n, 5 + 28 * (n - 8));
    refused(6, "packet 2", ARGUMENT, x, () -> x.packet(1, 2));
    refused(6, "packet -1", ARGUMENT, x, () -> x.packet(1, -1));
    refused(6, "packet of the largest number", ARGUMENT, x, () -> x.packet(1, Integer.MAX_VALUE));
    refused(6, "no period", STATE, x, () -> x.packet(0, 0));
    refused(6, "no period, no packet", STATE, x, () -> x.packet(0, -1));
    refused(6, "no channel", INDEX, x, () -> x.packet(4, 0));
    refused(6, "no channel, no packet", INDEX, x, () -> x.packet(-1, -1));
    due(6, "without subsets", x.period(3, 1, 1), 0);
    due(6, "its packet", x.packet(3, 0), 5);
    due(6, "one of", x.air(4), 1);
    refused(6, "its second one", ARGUMENT, x, () -> x.packet(3, 1));
    for (int p = 2; p <= 300; p++) x.period(3, 1, 1);
    due(6, "the period in two bytes", x.packet(3, 0) + 256 * x.air(1) + x.air(2), 305);
    deepPackets();
  }

  private static void deepPackets() {
    CoverKeys x = tree(8, -1, -2);
    subscribeEven(x, 2);
    x.period(2, -3, -4);
    due(6, "the last of sixteen", x.packet(2, 15), 229);
    due(6, "its number", x.air(3), 15);
    due(6, "of", x.air(4), 16);
    refused(6, "a seventeenth", ARGUMENT, x, () -> x.packet(2, 16));
    CoverKeys nine = tree(8, -1, -2);
    for (int d = 0; d < 18; d += 2) nine.subscribe(d, 0, true);
    due(6, "nine subsets", nine.period(0, 1, 1), 9);
    due(6, "the ninth alone", nine.packet(0, 1), 33);
    due(6, "of two", nine.air(4), 2);
    due(6, "the eight before it", nine.packet(0, 0), 229);
    refused(6, "a third", ARGUMENT, nine, () -> nine.packet(0, 2));
  }

  private static void entry(CoverKeys x, int channel, int n, int at) {
    int v = x.subset(channel, n, false);
    int w = x.subset(channel, n, true);
    byte[] key = Model.bytes(x.key(v, w, false), x.key(v, w, true));
    byte[] wrapped = Model.wrapped(key, Model.bytes(0x0011223344556677L, 0x8899aabbccddeeffL));
    due(6, "v", 256 * x.air(at) + x.air(at + 1), v);
    due(6, "w", 256 * x.air(at + 2) + x.air(at + 3), w);
    for (int b = 0; b < 24; b++) due(6, "wrapped byte " + b, x.air(at + 4 + b), wrapped[b] & 255);
  }

  private static void air() {
    CoverKeys x = new CoverKeys();
    refused(7, "nothing on the air", INDEX, x, () -> x.air(0));
    CoverKeys y = busy();
    due(7, "the channel", y.air(0), 0);
    due(7, "the period", y.air(2), 1);
    due(7, "the subset's w", y.air(8), 11);
    for (int i = 0; i < 33; i++) due(7, "a byte", y.air(i) >= 0 && y.air(i) <= 255, true);
    refused(7, "behind the last", INDEX, y, () -> y.air(33));
    refused(7, "before the first", INDEX, y, () -> y.air(-1));
    y.packet(1, 0);
    due(7, "another packet", y.air(0), 1);
    y.period(1, 9, 9);
    due(7, "it stays when a period begins", y.air(2), 1);
    y.subscribe(6, 1, false);
    y.period(1, 9, 9);
    y.packet(1, 0);
    refused(7, "a shorter packet", INDEX, y, () -> y.air(5));
  }

  private static void flip() {
    CoverKeys x = busy();
    int before = x.air(20);
    x.flip(20, 0x5A);
    due(8, "changed", x.air(20), before ^ 0x5A);
    x.flip(20, 0xFFFFFF00);
    due(8, "high bits count nothing", x.air(20), before ^ 0x5A);
    x.flip(20, -1);
    due(8, "all eight bits", x.air(20), before ^ 0xA5);
    x.flip(32, 1);
    x.flip(0, 0);
    due(8, "by nothing", x.air(0), 0);
    refused(8, "behind the last", INDEX, x, () -> x.flip(33, 1));
    refused(8, "before the first", INDEX, x, () -> x.flip(-1, 1));
    x.packet(0, 0);
    due(8, "the header stays right", x.air(20), before);
    CoverKeys y = new CoverKeys();
    refused(8, "nothing on the air", INDEX, y, () -> y.flip(0, 0));
  }

  private static void hear() {
    CoverKeys x = busy();
    due(9, "a subscriber", x.hear(1), 1);
    x.install(3);
    due(9, "none", x.hear(3), 0);
    due(9, "it has nothing", x.has(3, 0), -1);
    x.flip(9, 1);
    due(9, "a spoilt key", x.hear(1), -1);
    due(9, "nothing to another", x.hear(3), 0);
    due(9, "the key before stays", x.has(1, 0), 1);
    x.flip(9, 1);
    x.flip(5, 1);
    due(9, "a subset of no tree", x.hear(1), 0);
    x.flip(5, 1);
    x.flip(6, 1);
    due(9, "(0, 11)", x.hear(1), 0);
    x.flip(8, 11);
    due(9, "(0, 0)", x.hear(3), -1);
    x.flip(6, 1);
    due(9, "(1, 0)", x.hear(1), 0);
    x.flip(8, 1);
    due(9, "(1, 1)", x.hear(1), 0);
    x.flip(8, 1 ^ 9);
    due(9, "(1, 9) to that leaf", x.hear(1), 0);
    due(9, "(1, 9) to another", x.hear(0), -1);
    x.flip(8, 9 ^ 4);
    due(9, "(1, 4), above the leaf", x.hear(1), 0);
    x.flip(8, 4 ^ 16);
    due(9, "(1, 16)", x.hear(1), 0);
    hearHead();
    hearInOrder();
    CoverKeys y = busy();
    refused(9, "no decoder", INDEX, y, () -> y.hear(8));
    refused(9, "no decoder", INDEX, y, () -> y.hear(-1));
    refused(9, "not installed", STATE, y, () -> y.hear(2));
    CoverKeys z = new CoverKeys();
    z.install(2);
    refused(9, "nothing on the air", STATE, z, () -> z.hear(2));
    refused(9, "neither", STATE, z, () -> z.hear(3));
    refused(9, "no decoder, nothing on the air", INDEX, z, () -> z.hear(16));
  }

  /** The first five bytes are believed as they come. */
  private static void hearHead() {
    CoverKeys x = busy();
    x.flip(0, 3);
    x.flip(1, 255);
    x.flip(2, 255);
    x.flip(3, 77);
    x.flip(4, 77);
    due(9, "another channel", x.hear(1), 1);
    due(9, "and period", x.has(1, 3), 65534);
    due(9, "not its own", x.has(1, 0), -1);
    x.flip(1, 255);
    x.flip(2, 254);
    due(9, "period 0", x.hear(1) + x.has(1, 3), 1);
    x.flip(0, 7);
    due(9, "channel 4", x.hear(1), 0);
    x.flip(0, 4 ^ 255);
    due(9, "channel 255", x.hear(1), 0);
    x.flip(9, 1);
    due(9, "channel 255, spoilt", x.hear(1), 0);
    due(9, "it has what it had", x.has(1, 3), 0);
  }

  private static void hearInOrder() {
    CoverKeys x = tree(3, 1, 2);
    x.install(0);
    x.install(4);
    x.subscribe(0, 0, true);
    x.subscribe(4, 0, true);
    x.period(0, 5, 6);
    due(9, "two subsets", x.packet(0, 0), 61);
    for (int i = 5; i < 9; i++) x.flip(i, x.air(i));
    due(9, "first broken, then right", x.hear(4), 1);
    due(9, "broken, and the other is not for it", x.hear(0), -1);
    due(9, "none", x.has(0, 0), -1);
    x.packet(0, 0);
    for (int i = 33; i < 37; i++) x.flip(i, x.air(i));
    due(9, "right first", x.hear(0), 1);
    due(9, "not the first, and broken", x.hear(4), -1);
  }

  private static void has() {
    CoverKeys x = busy();
    due(10, "one that heard", x.has(0, 0), 1);
    due(10, "of another channel", x.has(0, 1), CoverKeys.NONE);
    due(10, "one that heard nothing", x.has(1, 0), CoverKeys.NONE);
    due(10, "not installed", x.has(7, 3), CoverKeys.NONE);
    x.period(0, 9, 9);
    due(10, "a new period", x.has(0, 0), 1);
    x.packet(0, 0);
    x.hear(0);
    due(10, "heard", x.has(0, 0), 2);
    refused(10, "no decoder", INDEX, x, () -> x.has(8, 0));
    refused(10, "no decoder", INDEX, x, () -> x.has(-1, 0));
    refused(10, "no channel", INDEX, x, () -> x.has(0, 4));
    refused(10, "no channel", INDEX, x, () -> x.has(0, -1));
  }

  private static void seal() {
    CoverKeys x = busy();
    x.period(3, -1, 77);
    x.period(3, 12, 0x8000000000000000L);
    x.seal(3, -5, 100, -200);
    byte[] with = sealed(12, 0x8000000000000000L, 3 * 65536 + 2, -5);
    due(11, "first half", x.out(false), 100 ^ Model.half(with, false));
    due(11, "second half", x.out(true), -200 ^ Model.half(with, true));
    x.seal(3, -5, x.out(false), x.out(true));
    due(11, "twice is nothing", x.out(false) == 100 && x.out(true) == -200, true);
    refused(11, "no channel", INDEX, x, () -> x.seal(4, 0, 0, 0));
    refused(11, "no channel", INDEX, x, () -> x.seal(-1, 0, 0, 0));
    refused(11, "no period", STATE, x, () -> x.seal(2, 0, 0, 0));
  }

  private static void open() {
    CoverKeys x = busy();
    x.period(0, 50, 60);
    x.open(0, 0, 9, 1, 2);
    byte[] with = sealed(5, 6, 1, 9);
    due(12, "with the key and period that it has", x.out(false), 1 ^ Model.half(with, false));
    due(12, "second half", x.out(true), 2 ^ Model.half(with, true));
    x.packet(0, 0);
    x.flip(0, 2);
    x.flip(1, 255);
    x.hear(0);
    x.open(0, 2, -9, 0, 0);
    due(12, "a channel and period by error", x.out(true), Model.half(sealed(50, 60, 2 * 65536 + 65282, -9), true));
    x.flip(0, 2);
    x.flip(1, 255);
    x.hear(0);
    x.seal(0, 3, 4, 5);
    x.open(0, 0, 3, x.out(false), x.out(true));
    due(12, "plain again", x.out(false) == 4 && x.out(true) == 5, true);
    refused(12, "no decoder", INDEX, x, () -> x.open(8, 0, 0, 0, 0));
    refused(12, "no channel", INDEX, x, () -> x.open(0, 4, 0, 0, 0));
    refused(12, "no channel", INDEX, x, () -> x.open(0, -1, 0, 0, 0));
    refused(12, "no key of that channel", STATE, x, () -> x.open(0, 1, 0, 0, 0));
    refused(12, "no key", STATE, x, () -> x.open(1, 0, 0, 0, 0));
    refused(12, "not installed", STATE, x, () -> x.open(5, 0, 0, 0, 0));
  }

  private static void out() {
    CoverKeys x = new CoverKeys();
    due(13, "first half at first", x.out(false), 0);
    due(13, "second half at first", x.out(true), 0);
    x.period(0, 0, 0);
    x.seal(0, 0, 0, 0);
    due(13, "first half", x.out(false), Model.half(sealed(0, 0, 1, 0), false));
    due(13, "second half", x.out(true), Model.half(sealed(0, 0, 1, 0), true));
  }

  private static void subset() {
    CoverKeys x = tree(3, 0, 0);
    subscribeAll(x, 0);
    for (int d : new int[] {2, 5, 6}) x.subscribe(d, 0, false);
    due(14, "subsets", x.period(0, 1, 1), 3);
    int[] due = {2, 10, 6, 13, 7, 14};
    for (int n = 0; n < 3; n++) {
      due(14, "v of " + n, x.subset(0, n, false), due[2 * n]);
      due(14, "w of " + n, x.subset(0, n, true), due[2 * n + 1]);
    }
    refused(14, "subset 3", INDEX, x, () -> x.subset(0, 3, true));
    refused(14, "subset -1", INDEX, x, () -> x.subset(0, -1, true));
    refused(14, "no period", STATE, x, () -> x.subset(1, 0, true));
    refused(14, "no channel", STATE, x, () -> x.subset(4, 0, true));
    refused(14, "no channel, no subset", STATE, x, () -> x.subset(-1, -1, true));
    for (int d : new int[] {0, 1, 3}) x.subscribe(d, 0, false);
    x.period(0, 1, 1);
    due(14, "two left", subsets(x, 0), 2);
    for (int d : new int[] {4, 7}) x.subscribe(d, 0, false);
    x.period(0, 1, 1);
    refused(14, "none left", INDEX, x, () -> x.subset(0, 0, false));
    for (int d : new int[] {4, 5, 6, 7}) x.subscribe(d, 0, true);
    x.period(0, 1, 1);
    due(14, "one half: v", x.subset(0, 0, false), 1);
    due(14, "one half: w", x.subset(0, 0, true), 2);
    subscribeAll(x, 0);
    x.period(0, 1, 1);
    due(14, "all: v and w", x.subset(0, 0, false) + x.subset(0, 0, true), 0);
    due(14, "one alone", subsets(x, 0), 1);
    for (int d = 4; d < 8; d++) x.subscribe(d, 0, false);
    x.period(0, 1, 1);
    due(14, "the other half: v", x.subset(0, 0, false), 1);
    due(14, "the other half: w", x.subset(0, 0, true), 3);
    deepSubsets();
  }

  private static void deepSubsets() {
    for (int d : new int[] {0, 100, 255}) {
      CoverKeys x = tree(8, 1, 1);
      subscribeAll(x, 0);
      x.subscribe(d, 0, false);
      due(14, "all of 256 but one", x.period(0, 1, 1), 1);
      due(14, "its v", x.subset(0, 0, false), 1);
      due(14, "its w", x.subset(0, 0, true), 256 + d);
      x.install(d);
      x.install(d ^ 1);
      due(16, "the one", x.reach(d, 0), 0);
      due(16, "its neighbour", x.reach(d ^ 1, 0), 1);
    }
  }

  private static void label() {
    CoverKeys x = tree(3, 21, 22);
    x.install(5);
    int[] due = {1, 2, 1, 7, 1, 12, 3, 7, 3, 12, 6, 12};
    for (int k = 0; k < 6; k++) {
      due(15, "v of " + k, x.label(5, k, 0), due[2 * k]);
      due(15, "w of " + k, x.label(5, k, 1), due[2 * k + 1]);
    }
    byte[] root = sealed(21, 22, 0, 1);
    byte[] at12 = next(next(next(root, 2), 1), 1);
    due(15, "L(1, 2), first half", x.label(5, 0, 2), Model.half(next(root, 1), false));
    due(15, "L(1, 12), first half", x.label(5, 2, 2), Model.half(at12, false));
    due(15, "L(1, 12), second half", x.label(5, 2, 3), Model.half(at12, true));
    due(15, "L(6, 12), second half", x.label(5, 5, 3), Model.half(next(sealed(21, 22, 0, 6), 1), true));
    for (int bad : new int[] {-1, 4, Integer.MAX_VALUE, Integer.MIN_VALUE}) {
      refused(15, "what = " + bad, ARGUMENT, x, () -> x.label(5, 0, bad));
    }
    for (int bad : new int[] {-1, 6, Integer.MAX_VALUE, Integer.MIN_VALUE}) {
      refused(15, "label " + bad, ARGUMENT, x, () -> x.label(5, bad, 0));
    }
    refused(15, "not installed", STATE, x, () -> x.label(4, 0, 0));
    refused(15, "not installed, no label", STATE, x, () -> x.label(4, 99, 99));
    refused(15, "no decoder", INDEX, x, () -> x.label(8, 0, 0));
    refused(15, "no decoder, no label", INDEX, x, () -> x.label(-1, -1, -1));
  }

  private static void reach() {
    CoverKeys x = busy();
    due(16, "a subscriber", x.reach(1, 0), 1);
    due(16, "none of that channel", x.reach(1, 1), 0);
    x.install(6);
    due(16, "one of that channel", x.reach(6, 1), 1);
    x.subscribe(6, 1, false);
    due(16, "as when the period began", x.reach(6, 1), 1);
    x.flip(5, 255);
    due(16, "the air is nothing to it", x.reach(1, 0), 1);
    refused(16, "no decoder", INDEX, x, () -> x.reach(8, 0));
    refused(16, "no channel", INDEX, x, () -> x.reach(0, 4));
    refused(16, "no channel, not installed", INDEX, x, () -> x.reach(2, -1));
    refused(16, "not installed", STATE, x, () -> x.reach(2, 0));
    refused(16, "no period", STATE, x, () -> x.reach(0, 2));
    CoverKeys y = tree(1, 0, 0);
    subscribeAll(y, 3);
    y.period(3, 1, 1);
    y.install(1);
    due(16, "the subset of all", y.reach(1, 3), 1);
  }

  private static void key() {
    CoverKeys x = tree(3, 31, 32);
    byte[] all = sealed(31, 32, 0, 0);
    due(17, "(0, 0)", x.key(0, 0, false), Model.half(all, false));
    due(17, "(0, 0), second half", x.key(0, 0, true), Model.half(all, true));
    byte[] some = next(next(next(sealed(31, 32, 0, 2), 2), 1), 3);
    due(17, "(2, 10)", x.key(2, 10, false), Model.half(some, false));
    due(17, "(2, 10), second half", x.key(2, 10, true), Model.half(some, true));
    CoverKeys deep = tree(8, 31, 32);
    byte[] way = sealed(31, 32, 0, 1);
    for (int level = 0; level < 8; level++) way = next(way, 2);
    due(17, "(1, 511) of depth 8", deep.key(1, 511, true), Model.half(next(way, 3), true));
    refused(17, "(1, 512) of depth 8", ARGUMENT, deep, () -> deep.key(1, 512, true));
    int subsets = 0;
    for (int v = -2; v < 20; v++) {
      for (int w = -2; w < 20; w++) subsets += isKey(x, v, w);
    }
    due(17, "subsets of the tree", subsets, 1 + 14 + 2 * 6 + 4 * 2);
    int big = Integer.MAX_VALUE;
    int[][] none = {{0, 1}, {1, 0}, {1, 1}, {2, 1}, {2, 3}, {2, 6}, {8, 16}, {1, 16}, {15, 15}, {-1, -2}, {1, big}, {big, big}};
    for (int[] bad : none) {
      refused(17, "(" + bad[0] + ", " + bad[1] + ")", ARGUMENT, x, () -> x.key(bad[0], bad[1], false));
    }
    refused(17, "the least numbers", ARGUMENT, x, () -> x.key(Integer.MIN_VALUE, Integer.MIN_VALUE, true));
    refused(17, "-1 and a node", ARGUMENT, x, () -> x.key(-1, 5, true));
    refused(17, "0 and -1", ARGUMENT, x, () -> x.key(0, -1, true));
  }

  private static int isKey(CoverKeys x, int v, int w) {
    try {
      x.key(v, w, false);
      return 1;
    } catch (IllegalArgumentException e) {
      return 0;
    }
  }

  private static void count() {
    CoverKeys x = busy();
    int[] due = {3, 2, 8, 33, 1, 1, 0, 0};
    for (int what = 0; what < 8; what++) due(18, "count " + what, x.count(what), due[what]);
    x.subscribe(0, 3, true);
    due(18, "one decoder, two channels", x.count(2), 9);
    x.period(3, 1, 1);
    x.period(3, 1, 1);
    due(18, "periods of channel 3", x.count(7), 2);
    x.install(7);
    due(18, "installed", x.count(1), 3);
    for (int bad : new int[] {-1, 8, Integer.MAX_VALUE, Integer.MIN_VALUE}) {
      refused(18, "count " + bad, ARGUMENT, x, () -> x.count(bad));
    }
  }

  public static void main(String[] args) {
    newObject();
    begin();
    install();
    subscribe();
    period();
    packet();
    air();
    flip();
    hear();
    has();
    seal();
    open();
    out();
    subset();
    label();
    reach();
    key();
    count();
    System.out.println(wrong == 0 ? checks + " checks of the promises are right" : wrong + " are wrong");
    if (wrong != 0) System.exit(1);
  }
}
