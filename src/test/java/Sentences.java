import java.util.ArrayList;
import java.util.List;
import java.util.function.Consumer;
import java.util.function.Function;
import java.util.function.Supplier;

/** What the tests of the document's sentences share: one test for each sentence, told under its words if it fails. */
final class Sentences {
  static final Class<?> INDEX = IndexOutOfBoundsException.class;
  static final Class<?> STATE = IllegalStateException.class;
  static final Class<?> ARGUMENT = IllegalArgumentException.class;
  static final Class<?> UNSUPPORTED = UnsupportedOperationException.class;

  static final int[] NO_CHANNELS = {-1, 4, -4, 256, Integer.MAX_VALUE, Integer.MIN_VALUE};

  private static int sentences = 0;
  private static int checks = 0;
  private static final List<String> wrong = new ArrayList<>();
  private static boolean holds;

  private Sentences() {}

  static void sentence(String words, Runnable test) {
    sentences++;
    holds = true;
    int before = checks;
    try {
      test.run();
    } catch (RuntimeException | AssertionError e) {
      tell("the test ended with " + e);
    }
    if (checks == before) tell("nothing was tested");
    if (!holds) wrong.add(words);
  }

  private static void tell(String what) {
    holds = false;
    System.out.println("  " + what);
  }

  static void end() {
    for (String words : wrong) System.out.println("does not hold: " + words);
    System.out.println(sentences + " sentences, " + checks + " checks, " + wrong.size() + " sentences do not hold");
    if (!wrong.isEmpty()) System.exit(1);
  }

  static void due(String what, long got, long want) {
    checks++;
    if (got != want) tell(what + " answered " + got + ", due is " + want);
  }

  static void due(String what, boolean got, boolean want) {
    due(what, got ? 1 : 0, want ? 1 : 0);
  }

  static void same(String what, Supplier<Counted> one, Supplier<Counted> other) {
    for (Function<Counted, String> probe : PROBES) {
      checks++;
      String first = probe.apply(one.get());
      String second = probe.apply(other.get());
      if (!first.equals(second)) tell(what + ": " + first + " and " + second + " are not the same");
    }
  }

  /**
   * The call must throw just this. Whether it changed nothing is seen on twins, one with the call and one
   * without it, so that they can be asked by calls that change them too.
   */
  static void refused(String what, Class<?> due, Supplier<Counted> twin, Consumer<Counted> call) {
    due(what + " threw " + due.getSimpleName(), thrownBy(twin.get(), call) == due, true);
    same(what + " changed something", twin, () -> {
      Counted x = twin.get();
      thrownBy(x, call);
      return x;
    });
  }

  static Class<?> thrownBy(Counted x, Consumer<Counted> call) {
    try {
      call.accept(x);
      return null;
    } catch (RuntimeException e) {
      return e.getClass();
    }
  }

  private static final List<Function<Counted, String>> PROBES = List.of(
      Sentences::countsAndAir, Sentences::headers, Sentences::stores, Sentences::heldKeys,
      Sentences::periodKeys, Sentences::subscribers, Sentences::heard, Sentences::nextPeriods);

  /** The answer as a text, what is thrown too: two programs that throw the same are the same. */
  private static String ask(Supplier<Object> call) {
    try {
      return call.get() + " ";
    } catch (RuntimeException e) {
      return e.getClass().getSimpleName() + " ";
    }
  }

  private static int[] someDecoders(Counted x) {
    int leaves = 1 << x.count(0);
    if (leaves == 2) return new int[] {0, 1};
    if (leaves == 4) return new int[] {0, 1, 2, 3};
    return new int[] {0, 1, 2, 3, leaves - 4, leaves - 3, leaves - 2, leaves - 1};
  }

  private static String countsAndAir(Counted x) {
    StringBuilder all = new StringBuilder();
    for (int what = 0; what < 8; what++) all.append(x.count(what)).append(' ');
    all.append(x.out(false)).append(' ').append(x.out(true)).append(" air ");
    int bytes = x.count(3);
    for (int i = 0; i < bytes; i++) all.append(x.air(i)).append(' ');
    all.append(x.key(0, 0, false)).append(' ').append(x.key(1, 3, true));
    return all.toString();
  }

  private static String headers(Counted x) {
    StringBuilder all = new StringBuilder();
    for (int channel = 0; channel < 4; channel++) {
      int c = channel;
      all.append(" channel ").append(c).append(": ");
      for (int n = 0; n < 4; n++) {
        int subset = n;
        all.append(ask(() -> x.subset(c, subset, false))).append(ask(() -> x.subset(c, subset, true)));
      }
      all.append(ask(() -> x.packet(c, 0)));
      int bytes = Math.min(x.count(3), 61);
      for (int i = 0; i < bytes; i++) all.append(x.air(i)).append(' ');
    }
    return all.toString();
  }

  private static String stores(Counted x) {
    StringBuilder all = new StringBuilder();
    for (int d : someDecoders(x)) {
      for (int c = 0; c < 4; c++) all.append(x.has(d, c)).append(' ');
      for (int what = 0; what < 4; what++) {
        int w = what;
        all.append(ask(() -> x.label(d, 0, w)));
      }
      for (int c = 0; c < 4; c++) {
        int channel = c;
        all.append(ask(() -> x.reach(d, channel)));
      }
    }
    return all.toString();
  }

  private static String heldKeys(Counted x) {
    StringBuilder all = new StringBuilder();
    for (int d : someDecoders(x)) {
      for (int c = 0; c < 4; c++) {
        int channel = c;
        all.append(ask(() -> {
          x.open(d, channel, 7, 0, 0);
          return "opened";
        }));
        all.append(x.out(false)).append(' ').append(x.out(true)).append(' ');
      }
    }
    return all.toString();
  }

  private static String periodKeys(Counted x) {
    StringBuilder all = new StringBuilder();
    for (int c = 0; c < 4; c++) {
      int channel = c;
      all.append(ask(() -> {
        x.seal(channel, 7, 0, 0);
        return "sealed";
      }));
      all.append(x.out(false)).append(' ').append(x.out(true)).append(' ');
    }
    return all.toString();
  }

  private static String subscribers(Counted x) {
    StringBuilder all = new StringBuilder();
    for (int d : someDecoders(x)) {
      for (int c = 0; c < 4; c++) all.append(x.subscribe(d, c, true) ? "new " : "old ");
    }
    return all.append(x.count(2)).toString();
  }

  private static String heard(Counted x) {
    StringBuilder all = new StringBuilder();
    for (int d : someDecoders(x)) {
      all.append(ask(() -> x.hear(d)));
      for (int c = 0; c < 4; c++) all.append(x.has(d, c)).append(' ');
    }
    return all.toString();
  }

  private static String nextPeriods(Counted x) {
    StringBuilder all = new StringBuilder();
    for (int d : someDecoders(x)) all.append(ask(() -> x.install(d)));
    for (int c = 0; c < 4; c++) {
      int channel = c;
      all.append(ask(() -> x.period(channel, 70 + channel, -70)));
      all.append(ask(() -> x.packet(channel, 0)));
      for (int i = 0; i < 5; i++) all.append(x.air(i)).append(' ');
      for (int d : someDecoders(x)) all.append(ask(() -> x.hear(d)));
    }
    return all.toString();
  }

  static Counted tree(int depth, long high, long low) {
    Counted x = new Counted();
    x.begin(depth, high, low);
    return x;
  }

  static void subscribeAll(Counted x, int channel) {
    int leaves = 1 << x.count(0);
    for (int d = 0; d < leaves; d++) x.subscribe(d, channel, true);
  }

  static void subscribe(Counted x, int channel, int... decoders) {
    for (int d : decoders) x.subscribe(d, channel, true);
  }

  /** So many subscribers that no two of them share a parent: each makes a subset of its own. */
  static Counted withSubsets(int subsets, int channel) {
    Counted x = tree(8, 61, 62);
    for (int s = 0; s < subsets; s++) x.subscribe(2 * s, channel, true);
    due("period with " + subsets + " subsets", x.period(channel, 63, 64), subsets);
    return x;
  }

  /**
   * Something of everything: depth 3; 0, 1, 4 and 7 are installed; channel 0 is in its second period, of which
   * 0 has the key, 1 that of the first; channel 1 has two subsets, and its packet, spoilt, is on the air;
   * channel 2 has a subscriber, but no period; all subscribe to channel 3; the out is not 0.
   */
  static Counted busy() {
    Counted x = tree(3, 1, 2);
    for (int d : new int[] {0, 1, 4, 7}) x.install(d);
    subscribe(x, 0, 0, 1, 2, 4, 5, 6, 7);
    x.period(0, 5, 6);
    x.packet(0, 0);
    x.hear(0);
    x.hear(1);
    x.period(0, 7, 8);
    x.packet(0, 0);
    x.hear(0);
    subscribe(x, 1, 0, 4);
    x.period(1, 9, 10);
    subscribe(x, 1, 2);
    subscribe(x, 2, 5);
    subscribeAll(x, 3);
    x.period(3, 11, 12);
    x.packet(3, 0);
    x.hear(7);
    x.seal(1, 2, 3, 4);
    x.packet(1, 0);
    x.flip(20, 0x55);
    return x;
  }

  /** A tree of the greatest depth, with its first and last decoder in use. */
  static Counted deep() {
    Counted x = tree(8, 3, 4);
    x.install(0);
    x.install(255);
    subscribe(x, 0, 0, 255);
    x.period(0, 5, 6);
    x.packet(0, 0);
    x.hear(255);
    x.seal(0, 1, 1, 1);
    return x;
  }

  /** A tree of the least depth, with both decoders in use. */
  static Counted small() {
    Counted x = tree(1, 3, 4);
    x.install(0);
    x.install(1);
    subscribe(x, 0, 1);
    x.period(0, 5, 6);
    x.packet(0, 0);
    x.hear(1);
    x.seal(0, 1, 1, 1);
    return x;
  }

  /** The two numbers of a block made with the block of other two numbers under a key, by the JDK. */
  static long mask(long keyHigh, long keyLow, long first, long i, boolean second) {
    return Model.half(Model.aes(true, Model.bytes(keyHigh, keyLow), Model.bytes(first, i)), second);
  }

  /** The label L(v, w) by the JDK, from its definition. */
  static byte[] label(long seedHigh, long seedLow, int v, int w) {
    if (w == v) return Model.aes(true, Model.bytes(seedHigh, seedLow), Model.bytes(0, v));
    return Model.aes(true, label(seedHigh, seedLow, v, w / 2), Model.bytes(0, w % 2 == 0 ? 1 : 2));
  }

  static byte[] subsetKey(long seedHigh, long seedLow, int v, int w) {
    if (v == 0) return Model.aes(true, Model.bytes(seedHigh, seedLow), Model.bytes(0, 0));
    return Model.aes(true, label(seedHigh, seedLow, v, w), Model.bytes(0, 3));
  }

  /** Byte i of the packet on the air becomes this one. */
  static void set(Counted x, int i, int value) {
    x.flip(i, x.air(i) ^ value & 255);
  }

  static void setSubset(Counted x, int at, int v, int w) {
    set(x, at, v >> 8);
    set(x, at + 1, v);
    set(x, at + 2, w >> 8);
    set(x, at + 3, w);
  }
}
