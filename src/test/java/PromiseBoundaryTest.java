import java.util.ArrayList;
import java.util.List;
import java.util.function.Consumer;
import java.util.function.ObjIntConsumer;
import java.util.function.Supplier;

/** Each sentence of the promises that names a boundary case, with a test of its own. */
public final class PromiseBoundaryTest {
  private static final int LARGEST = Integer.MAX_VALUE;
  private static final int LEAST = Integer.MIN_VALUE;

  public static void main(String[] args) {
    wholeObject();
    installAndSubscribe();
    periodAndPacket();
    onTheAir();
    blocks();
    looks();
    refusals();
    Sentences.end();
  }

  private static void wholeObject() {
    Sentences.sentence("1: As behind begin(4, 0, 0)", PromiseBoundaryTest::newObject);
    Sentences.sentence("2: A new tree of a depth with a seed", PromiseBoundaryTest::newTree);
    Sentences.sentence("2: no decoder is installed", PromiseBoundaryTest::noneIsInstalled);
    Sentences.sentence("2: nobody subscribes", PromiseBoundaryTest::nobodySubscribes);
    Sentences.sentence("2: no period began", PromiseBoundaryTest::noPeriodBegan);
    Sentences.sentence("2: nothing is on the air", PromiseBoundaryTest::nothingIsOnTheAir);
    Sentences.sentence("2: (the out stays)", PromiseBoundaryTest::theOutStays);
    Sentences.sentence("2: IllegalArgumentException: there is no such depth", PromiseBoundaryTest::noSuchDepth);
  }

  private static void installAndSubscribe() {
    Sentences.sentence("3: how many labels it stores (without the key of (0, 0))", PromiseBoundaryTest::labelsStored);
    Sentences.sentence("3: IndexOutOfBoundsException", () -> noSuchDecoder("install", (x, d) -> x.install(d)));
    Sentences.sentence("3: IllegalStateException: it is installed", PromiseBoundaryTest::installedTwice);
    Sentences.sentence("4: A decoder becomes a subscriber of a channel, or none", PromiseBoundaryTest::firstAndLast);
    Sentences.sentence("4: whether that changed something", PromiseBoundaryTest::changedSomething);
    Sentences.sentence("4: IndexOutOfBoundsException", () -> {
      noSuchDecoder("subscribe", (x, d) -> x.subscribe(d, 0, true));
      noSuchDecoder("subscribe no more", (x, d) -> x.subscribe(d, 3, false));
      noSuchChannel("subscribe", Sentences.INDEX, (x, c) -> x.subscribe(3, c, true));
      noSuchChannel("subscribe no more", Sentences.INDEX, (x, c) -> x.subscribe(0, c, false));
    });
  }

  private static void periodAndPacket() {
    Sentences.sentence("5: how many subsets its header has", PromiseBoundaryTest::subsetsOfHeaders);
    Sentences.sentence("5: IndexOutOfBoundsException",
        () -> noSuchChannel("period", Sentences.INDEX, (x, c) -> x.period(c, 1, 1)));
    Sentences.sentence("5: UnsupportedOperationException: there were 999", PromiseBoundaryTest::theThousandth);
    Sentences.sentence("6: of a channel's latest period", PromiseBoundaryTest::latestHeader);
    Sentences.sentence("6: how many bytes", PromiseBoundaryTest::leastAndMostBytes);
    Sentences.sentence("6: IndexOutOfBoundsException: there is no such channel",
        () -> noSuchChannel("packet", Sentences.INDEX, (x, c) -> x.packet(c, 0)));
    Sentences.sentence("6: IllegalStateException: no period began", () -> {
      refused("packet of a new object", Sentences.STATE, Counted::new, x -> x.packet(0, 0));
      refused("packet of another channel", Sentences.STATE, Sentences::busy, x -> x.packet(2, 0));
    });
    Sentences.sentence("6: IllegalArgumentException: there is no such packet", PromiseBoundaryTest::noSuchPacket);
  }

  private static void onTheAir() {
    Sentences.sentence("7: Byte i of the packet on the air", PromiseBoundaryTest::firstAndLastByte);
    Sentences.sentence("7: IndexOutOfBoundsException", () -> noSuchByte("air", (x, i) -> x.air(i)));
    Sentences.sentence("8: Byte i of it is changed by xor with mask", PromiseBoundaryTest::oneByteIsFlipped);
    Sentences.sentence("8: (its lowest eight bits)", PromiseBoundaryTest::lowestEightBits);
    Sentences.sentence("8: IndexOutOfBoundsException", () -> {
      noSuchByte("flip", (x, i) -> x.flip(i, 1));
      noSuchByte("flip by nothing", (x, i) -> x.flip(i, 0));
    });
    Sentences.sentence("9: 1 if it has the key by it; -1 if not, and something was broken; else 0",
        PromiseBoundaryTest::threeAnswers);
    Sentences.sentence("9: IndexOutOfBoundsException", () -> noSuchDecoder("hear", (x, d) -> x.hear(d)));
    Sentences.sentence("9: IllegalStateException: it is not installed, or nothing is on the air", () -> {
      refused("one that is not installed", Sentences.STATE, Sentences::busy, x -> x.hear(2));
      refused("nothing is on the air", Sentences.STATE, () -> installedOnly(), x -> x.hear(0));
      refused("neither", Sentences.STATE, () -> installedOnly(), x -> x.hear(2));
      refused("nothing is on the air again", Sentences.STATE, () -> begunAgain(true), x -> x.hear(0));
    });
    Sentences.sentence("10: NONE without one", PromiseBoundaryTest::noneWithoutOne);
    Sentences.sentence("10: IndexOutOfBoundsException", () -> {
      noSuchDecoder("has", (x, d) -> x.has(d, 0));
      noSuchChannel("has", Sentences.INDEX, (x, c) -> x.has(0, c));
      noSuchChannel("has of one not installed", Sentences.INDEX, (x, c) -> x.has(2, c));
    });
  }

  private static void blocks() {
    Sentences.sentence("11: with the key of its latest period", PromiseBoundaryTest::latestKey);
    Sentences.sentence("11: IndexOutOfBoundsException",
        () -> noSuchChannel("seal", Sentences.INDEX, (x, c) -> x.seal(c, 0, 1, 1)));
    Sentences.sentence("11: IllegalStateException: no period began", () -> {
      refused("seal of a new object", Sentences.STATE, Counted::new, x -> x.seal(0, 0, 1, 1));
      refused("seal of another channel", Sentences.STATE, Sentences::busy, x -> x.seal(2, 0, 1, 1));
    });
    Sentences.sentence("12: A decoder makes it plain", PromiseBoundaryTest::plainAgain);
    Sentences.sentence("12: with the key that it has", PromiseBoundaryTest::theKeyThatItHas);
    Sentences.sentence("12: IndexOutOfBoundsException", () -> {
      noSuchDecoder("open", (x, d) -> x.open(d, 0, 0, 1, 1));
      noSuchChannel("open", Sentences.INDEX, (x, c) -> x.open(0, c, 0, 1, 1));
    });
    Sentences.sentence("12: IllegalStateException: it has none", () -> {
      refused("one that heard nothing", Sentences.STATE, Sentences::busy, x -> x.open(4, 0, 0, 1, 1));
      refused("one that has another channel's", Sentences.STATE, Sentences::busy, x -> x.open(0, 3, 0, 1, 1));
      refused("one that is not installed", Sentences.STATE, Sentences::busy, x -> x.open(2, 0, 0, 1, 1));
      refused("what was broken", Sentences.STATE, () -> heardBroken(), x -> x.open(0, 0, 0, 1, 1));
    });
    Sentences.sentence("13: The first half of the out, or the second one", PromiseBoundaryTest::halvesOfTheOut);
    Sentences.sentence("13: 0 at first", PromiseBoundaryTest::noughtAtFirst);
  }

  private static void looks() {
    Sentences.sentence("14: Of subset n of a header: its v, or its w", PromiseBoundaryTest::firstAndLastSubset);
    Sentences.sentence("14: IllegalStateException: no period of that channel began (one that is not there has none)", () -> {
      refused("subset of a new object", Sentences.STATE, Counted::new, x -> x.subset(0, 0, false));
      refused("subset of another channel", Sentences.STATE, Sentences::busy, x -> x.subset(2, 0, true));
      noSuchChannel("subset", Sentences.STATE, (x, c) -> x.subset(c, 0, false));
    });
    Sentences.sentence("14: IndexOutOfBoundsException", PromiseBoundaryTest::noSuchSubset);
    Sentences.sentence("15: Of label k of a decoder (in order): what = 0 its v, 1 its w, 2 its first half, 3 its second one",
        PromiseBoundaryTest::firstAndLastLabel);
    Sentences.sentence("15: IndexOutOfBoundsException", () -> noSuchDecoder("label", (x, d) -> x.label(d, 0, 0)));
    Sentences.sentence("15: IllegalStateException: it is not installed", () -> {
      refused("label of one that is not", Sentences.STATE, Sentences::busy, x -> x.label(2, 0, 0));
      refused("label of a subscriber that is not", Sentences.STATE, Sentences::busy, x -> x.label(5, 0, 3));
      refused("label of one that was", Sentences.STATE, () -> begunAgain(false), x -> x.label(0, 0, 0));
    });
    Sentences.sentence("15: IllegalArgumentException: what is none of these, or there is no such label",
        PromiseBoundaryTest::noSuchLabel);
    Sentences.sentence("16: How many subsets of the header of a channel's latest period have a key that a decoder can derive",
        PromiseBoundaryTest::leastAndMostReach);
    Sentences.sentence("16: IndexOutOfBoundsException", () -> {
      noSuchDecoder("reach", (x, d) -> x.reach(d, 0));
      noSuchChannel("reach", Sentences.INDEX, (x, c) -> x.reach(0, c));
    });
    Sentences.sentence("16: IllegalStateException: no period began, or it is not installed", () -> {
      refused("no period began", Sentences.STATE, Sentences::busy, x -> x.reach(0, 2));
      refused("it is not installed", Sentences.STATE, Sentences::busy, x -> x.reach(2, 0));
      refused("neither", Sentences.STATE, Sentences::busy, x -> x.reach(5, 2));
    });
    Sentences.sentence("17: The key of a subset, its first half or its second one", PromiseBoundaryTest::leastAndGreatestSubset);
    Sentences.sentence("17: IllegalArgumentException: it is none of this tree", PromiseBoundaryTest::noneOfThisTree);
    Sentences.sentence("18: 0 the depth, 1 decoders that are installed, 2 subscribers of all channels, 3 bytes on the air",
        PromiseBoundaryTest::leastAndMostCounts);
    Sentences.sentence("18: 4 + c periods (0 before the first one)", PromiseBoundaryTest::periodsOfEachChannel);
    Sentences.sentence("18: IllegalArgumentException: what is none of these", PromiseBoundaryTest::noSuchCount);
  }

  private static void refusals() {
    Sentences.sentence("Terms: Methods throw what their comments name", PromiseBoundaryTest::whatTheCommentsName);
    Sentences.sentence("Terms: IndexOutOfBoundsException: there is no such decoder, channel, packet, byte, label or subset",
        PromiseBoundaryTest::nothingOfTheKind);
    Sentences.sentence("Terms: the one named first when several would do", PromiseBoundaryTest::theOneNamedFirst);
    Sentences.sentence("Terms: A call that throws changes nothing", PromiseBoundaryTest::manyRefusedCalls);
  }

  private static void due(String what, long got, long want) {
    Sentences.due(what, got, want);
  }

  private static void due(String what, boolean got, boolean want) {
    Sentences.due(what, got, want);
  }

  private static void refused(String what, Class<?> due, Supplier<Counted> twin, Consumer<Counted> call) {
    Sentences.refused(what, due, twin, call);
  }

  private static void noSuchDecoder(String name, ObjIntConsumer<Counted> call) {
    noneOf(name + " at depth 1, decoder", Sentences::small, call, -1, 2, 3, LARGEST, LEAST);
    noneOf(name + " at depth 3, decoder", Sentences::busy, call, -1, 8, 9, 15, 16, 256, LARGEST, LEAST);
    noneOf(name + " at depth 4, decoder", Counted::new, call, -1, 16, 31);
    noneOf(name + " at depth 8, decoder", Sentences::deep, call, -1, 256, 257, 511, 512, LARGEST, LEAST);
  }

  private static void noneOf(String name, Supplier<Counted> twin, ObjIntConsumer<Counted> call, int... none) {
    for (int n : none) refused(name + " " + n, Sentences.INDEX, twin, x -> call.accept(x, n));
  }

  private static void noSuchChannel(String name, Class<?> due, ObjIntConsumer<Counted> call) {
    for (int none : Sentences.NO_CHANNELS) {
      refused(name + " of channel " + none, due, Sentences::busy, x -> call.accept(x, none));
    }
  }

  private static void noSuchByte(String name, ObjIntConsumer<Counted> call) {
    noneOf(name + " with nothing on the air, byte", Counted::new, call, 0, -1, 1);
    noneOf(name + " of 61 bytes, byte", Sentences::busy, call, -1, 61, 62, 228, 229, 256, LARGEST, LEAST);
    noneOf(name + " behind begin, byte", () -> begunAgain(false), call, 0, 20);
    noneOf(name + " of the shortest packet, byte", PromiseBoundaryTest::shortAfterLong, call, -1, 5, 60);
    noneOf(name + " of the longest packet, byte", PromiseBoundaryTest::longest, call, -1, 229);
  }

  private static Counted installedOnly() {
    Counted x = Sentences.tree(3, 1, 2);
    x.install(0);
    x.period(0, 1, 1);
    return x;
  }

  private static Counted begunAgain(boolean installs) {
    Counted x = Sentences.busy();
    x.begin(3, 1, 2);
    if (installs) x.install(0);
    return x;
  }

  private static Counted shortAfterLong() {
    Counted x = Sentences.busy();
    x.period(2, 1, 1);
    x.packet(1, 0);
    x.subscribe(5, 2, false);
    x.period(2, 1, 1);
    x.packet(2, 0);
    return x;
  }

  private static Counted longest() {
    Counted x = Sentences.withSubsets(9, 0);
    x.packet(0, 0);
    return x;
  }

  private static Counted heardBroken() {
    Counted x = Sentences.tree(1, 1, 2);
    x.install(0);
    Sentences.subscribe(x, 0, 0);
    x.period(0, 3, 4);
    x.packet(0, 0);
    x.flip(32, 128);
    due("broken", x.hear(0), -1);
    return x;
  }

  private static void newObject() {
    Sentences.same("a new object", Counted::new, () -> Sentences.tree(4, 0, 0));
    Counted x = new Counted();
    due("the depth", x.count(0), 4);
    for (int what = 1; what < 8; what++) due("count " + what, x.count(what), 0);
    due("the seed is 0", x.key(0, 0, false), 0x66e94bd4ef8a2c3bL);
    due("the last decoder", x.install(15), 10);
    due("one more throws", Sentences.thrownBy(x, y -> y.install(16)) == Sentences.INDEX, true);
  }

  private static void newTree() {
    for (int depth = 1; depth <= 8; depth++) {
      for (long seed : new long[] {0, -1, Long.MAX_VALUE, Long.MIN_VALUE}) {
        Counted x = Sentences.busy();
        x.begin(depth, seed, ~seed);
        due("the depth", x.count(0), depth);
        due("the seed, first half", x.key(0, 0, false), Sentences.mask(seed, ~seed, 0, 0, false));
        due("the seed, second half", x.key(0, 0, true), Sentences.mask(seed, ~seed, 0, 0, true));
      }
    }
    Counted again = Sentences.busy();
    long before = again.key(1, 3, false);
    again.begin(3, 1, 2);
    due("the same seed makes the same tree", again.key(1, 3, false), before);
    again.begin(3, 2, 1);
    due("another does not", again.key(1, 3, false) != before, true);
  }

  /** Decoders of a greater tree must not come back when a smaller one lay between. */
  private static void noneIsInstalled() {
    for (int between = 1; between <= 8; between++) {
      Counted x = Sentences.deep();
      x.begin(between, 3, 4);
      due("installed in between", x.count(1), 0);
      x.begin(8, 3, 4);
      due("installed", x.count(1), 0);
      for (int d : new int[] {0, 255}) {
        due("no labels", Sentences.thrownBy(x, y -> y.label(d, 0, 0)) == Sentences.STATE, true);
        due("no key", x.has(d, 0), -1);
        due("it can be installed again", x.install(d), 36);
        due("and has no key then", x.has(d, 0), -1);
        due("nor opens", Sentences.thrownBy(x, y -> y.open(d, 0, 0, 0, 0)) == Sentences.STATE, true);
      }
    }
  }

  private static void nobodySubscribes() {
    for (int between = 1; between <= 8; between++) {
      Counted x = Sentences.deep();
      for (int c = 1; c < 4; c++) Sentences.subscribe(x, c, c, 200 + c);
      x.begin(between, 3, 4);
      due("subscribers in between", x.count(2), 0);
      for (int c = 0; c < 4; c++) due("an empty cover in between", x.period(c, 1, 1), 0);
      x.begin(8, 3, 4);
      due("subscribers", x.count(2), 0);
      for (int c = 0; c < 4; c++) due("an empty cover", x.period(c, 1, 1), 0);
      due("255 is new", x.subscribe(255, 0, true), true);
      due("203 is new", x.subscribe(203, 3, true), true);
    }
  }

  private static void noPeriodBegan() {
    Counted x = begunAgain(true);
    for (int c = 0; c < 4; c++) {
      int channel = c;
      due("periods", x.count(4 + c), 0);
      due("packet throws", Sentences.thrownBy(x, y -> y.packet(channel, 0)) == Sentences.STATE, true);
      due("seal throws", Sentences.thrownBy(x, y -> y.seal(channel, 0, 0, 0)) == Sentences.STATE, true);
      due("subset throws", Sentences.thrownBy(x, y -> y.subset(channel, 0, true)) == Sentences.STATE, true);
      due("reach throws", Sentences.thrownBy(x, y -> y.reach(0, channel)) == Sentences.STATE, true);
    }
    x.period(0, 1, 1);
    due("the first one again", x.count(4), 1);
    x.packet(0, 0);
    due("its number", x.air(2), 1);
  }

  private static void nothingIsOnTheAir() {
    Counted x = begunAgain(true);
    due("bytes", x.count(3), 0);
    due("air throws", Sentences.thrownBy(x, y -> y.air(0)) == Sentences.INDEX, true);
    due("flip throws", Sentences.thrownBy(x, y -> y.flip(0, 1)) == Sentences.INDEX, true);
    due("hear throws", Sentences.thrownBy(x, y -> y.hear(0)) == Sentences.STATE, true);
  }

  private static void theOutStays() {
    Counted x = Sentences.busy();
    long first = x.out(false);
    long second = x.out(true);
    due("an out that is not 0", first != 0 && second != 0, true);
    for (int depth = 1; depth <= 8; depth++) {
      x.begin(depth, -1, -1);
      due("first half", x.out(false), first);
      due("second half", x.out(true), second);
    }
  }

  private static void noSuchDepth() {
    for (int none : new int[] {0, 9, -1, 10, 16, 32, 33, 257, 260, LARGEST, LEAST}) {
      refused("begin(" + none + ")", Sentences.ARGUMENT, Sentences::busy, x -> x.begin(none, 9, 9));
      refused("begin(" + none + ") of a new object", Sentences.ARGUMENT, Counted::new, x -> x.begin(none, 9, 9));
    }
  }

  private static void labelsStored() {
    int[] labels = {1, 3, 6, 10, 15, 21, 28, 36};
    for (int depth = 1; depth <= 8; depth++) {
      int last = (1 << depth) - 1;
      Counted x = Sentences.tree(depth, 1, 1);
      due("the first one", x.install(0), labels[depth - 1]);
      due("the last one", x.install(last), labels[depth - 1]);
      due("the last label", x.label(last, labels[depth - 1] - 1, 1), 2 * (1 << depth) - 2);
    }
    Counted all = Sentences.tree(8, 1, 1);
    for (int d = 0; d < 256; d++) due("each of 256", all.install(d), 36);
    due("all", all.count(1), 256);
  }

  private static void installedTwice() {
    refused("one that has a key", Sentences.STATE, Sentences::busy, x -> x.install(0));
    refused("one that has none", Sentences.STATE, Sentences::busy, x -> x.install(4));
    refused("the last one", Sentences.STATE, Sentences::deep, x -> x.install(255));
    refused("the last one of two", Sentences.STATE, Sentences::small, x -> x.install(1));
  }

  private static void firstAndLast() {
    for (int depth = 1; depth <= 8; depth++) {
      int last = (1 << depth) - 1;
      for (int c : new int[] {0, 3}) {
        Counted x = Sentences.tree(depth, 1, 1);
        for (int d : new int[] {0, last}) {
          due("becomes one", x.subscribe(d, c, true), true);
          due("a subset for it", x.period(c, 1, 1) > 0, true);
          due("becomes none", x.subscribe(d, c, false), true);
          due("no subset for it", x.period(c, 1, 1), 0);
        }
      }
    }
  }

  private static void changedSomething() {
    Counted x = Sentences.tree(3, 1, 1);
    due("none becomes none", x.subscribe(7, 3, false), false);
    due("none becomes one", x.subscribe(7, 3, true), true);
    due("one becomes one", x.subscribe(7, 3, true), false);
    due("of another channel it is none", x.subscribe(7, 2, false), false);
    due("another decoder is none", x.subscribe(6, 3, false), false);
    x.period(3, 1, 1);
    due("also when a period began", x.subscribe(7, 3, true), false);
    x.install(7);
    due("also when it is installed", x.subscribe(7, 3, true), false);
    due("one becomes none", x.subscribe(7, 3, false), true);
    due("and stays none", x.subscribe(7, 3, false), false);
  }

  private static void subsetsOfHeaders() {
    Counted x = Sentences.tree(1, 1, 1);
    due("nobody", x.period(0, 1, 1), 0);
    x.subscribe(0, 0, true);
    due("one of two", x.period(0, 1, 1), 1);
    x.subscribe(1, 0, true);
    due("both", x.period(0, 1, 1), 1);
    Sentences.withSubsets(127, 0);
    Counted most = Sentences.withSubsets(128, 3);
    due("also one without any is a period", most.period(0, 1, 1), 0);
    due("it counts", most.count(4), 1);
  }

  private static CoverKeys withAllPeriods() {
    CoverKeys x = new CoverKeys();
    x.install(0);
    x.subscribe(0, 1, true);
    for (int p = 1; p <= 999; p++) x.period(1, p, -p);
    return x;
  }

  /** It takes more calls than an object is used for, so this one is not counted. */
  private static void theThousandth() {
    CoverKeys x = withAllPeriods();
    due("periods", x.count(5), 999);
    for (int time = 0; time < 2; time++) {
      x.subscribe(8, 1, true);
      due("the thousandth throws", thousandth(x) == Sentences.UNSUPPORTED, true);
      due("periods", x.count(5), 999);
      due("the header", x.subset(1, 0, false), 8);
      due("its key", sealedFirst(x), Sentences.mask(999, -999, 65536 + 999, 4, false));
      due("bytes", x.packet(1, 0), 33);
      due("period", 256 * x.air(1) + x.air(2), 999);
      due("heard", x.hear(0), 1);
    }
    due("another channel", x.period(0, 1, 1), 0);
    x.begin(4, 0, 0);
    due("behind begin", x.period(1, 1, 1), 0);
    due("the first one", x.count(5), 1);
  }

  private static Class<?> thousandth(CoverKeys x) {
    try {
      x.period(1, 5, 5);
      return null;
    } catch (RuntimeException e) {
      return e.getClass();
    }
  }

  private static long sealedFirst(CoverKeys x) {
    x.seal(1, 4, 0, 0);
    return x.out(false);
  }

  private static void latestHeader() {
    Counted x = Sentences.withSubsets(9, 0);
    x.packet(0, 1);
    x.subscribe(16, 0, false);
    due("eight are left", x.period(0, 5, 6), 8);
    due("the packet before stays on the air", x.count(3), 33);
    due("the only one now", x.packet(0, 0), 229);
    due("its period", x.air(2), 2);
    due("the second one is gone", Sentences.thrownBy(x, y -> y.packet(0, 1)) == Sentences.ARGUMENT, true);
    x.install(0);
    x.hear(0);
    x.open(0, 0, 1, 0, 0);
    due("its key", x.out(false), Sentences.mask(5, 6, 2, 1, false));
  }

  private static void leastAndMostBytes() {
    Counted x = Sentences.tree(3, 1, 1);
    x.period(0, 1, 1);
    due("no subset", x.packet(0, 0), 5);
    Counted nine = Sentences.withSubsets(9, 0);
    due("eight subsets", nine.packet(0, 0), 229);
    due("one subset", nine.packet(0, 1), 33);
    due("the same once more", nine.packet(0, 1), 33);
  }

  private static void noSuchPacket() {
    int[] none = {-1, 1, 2, 256, LARGEST, LEAST, 1 << 28, 1 << 29, 1 << 30, -(1 << 28), -8};
    for (int n : none) {
      refused("packet " + n + " of one", Sentences.ARGUMENT, Sentences::busy, x -> x.packet(1, n));
      refused("packet " + n + " without subsets", Sentences.ARGUMENT, PromiseBoundaryTest::shortAfterLong, x -> x.packet(2, n));
    }
    refused("packet 1 of eight subsets", Sentences.ARGUMENT, () -> Sentences.withSubsets(8, 1), x -> x.packet(1, 1));
    refused("packet 2 of nine subsets", Sentences.ARGUMENT, () -> Sentences.withSubsets(9, 1), x -> x.packet(1, 2));
    refused("packet 16 of 128 subsets", Sentences.ARGUMENT, () -> Sentences.withSubsets(128, 1), x -> x.packet(1, 16));
  }

  private static void firstAndLastByte() {
    Counted x = Sentences.tree(1, 1, 2);
    Sentences.subscribe(x, 3, 0);
    x.period(3, 3, 4);
    due("bytes", x.packet(3, 0), 33);
    byte[] wrapped = Model.wrapped(Sentences.subsetKey(1, 2, 1, 3), Model.bytes(3, 4));
    due("the first byte", x.air(0), 3);
    due("the last byte", x.air(32), wrapped[23] & 255);
    Counted y = longest();
    y.flip(228, 9);
    int spoilt = y.air(228);
    y.packet(0, 0);
    due("the last byte of the longest", y.air(228), spoilt ^ 9);
  }

  private static void oneByteIsFlipped() {
    Counted x = Sentences.busy();
    int[] before = new int[61];
    for (int i = 0; i < 61; i++) before[i] = x.air(i);
    for (int i : new int[] {0, 60}) {
      x.flip(i, 0xA5);
      for (int j = 0; j < 61; j++) due("byte " + j, x.air(j), j == i ? before[j] ^ 0xA5 : before[j]);
      x.flip(i, 0xA5);
      due("twice is nothing", x.air(i), before[i]);
    }
    x.flip(60, 1);
    x.packet(1, 0);
    due("the header is not spoilt", x.air(60), before[60]);
    due("nor by a flip before", x.air(20), before[20] ^ 0x55);
  }

  private static void lowestEightBits() {
    int[][] masksAndChanges = {
      {0, 0}, {255, 255}, {256, 0}, {257, 1}, {0xFF00, 0}, {-1, 255}, {-256, 0}, {-128, 128}, {LARGEST, 255}, {LEAST, 0}
    };
    for (int[] m : masksAndChanges) {
      Counted x = Sentences.busy();
      int before = x.air(30);
      x.flip(30, m[0]);
      due("changed by " + m[0], x.air(30), before ^ m[1]);
    }
  }

  private static void threeAnswers() {
    Counted x = Sentences.tree(3, 1, 2);
    for (int d : new int[] {0, 1, 4}) x.install(d);
    Sentences.subscribe(x, 0, 0, 4);
    x.period(0, 3, 4);
    x.packet(0, 0);
    due("the key by the first entry", x.hear(0), 1);
    due("the key by the last entry", x.hear(4), 1);
    due("nothing for it", x.hear(1), 0);
    x.flip(60, 1);
    due("the last entry broken", x.hear(4), -1);
    due("it keeps what it had", x.has(4, 0), 1);
    due("the first is not", x.hear(0), 1);
    due("nothing for it, though something is broken", x.hear(1), 0);
    x.period(0, 5, 6);
    x.packet(0, 0);
    x.flip(9, 1);
    due("the first entry broken", x.hear(0), -1);
    due("it keeps the period before", x.has(0, 0), 1);
    x.open(0, 0, 1, 0, 0);
    due("and its key", x.out(false), Sentences.mask(3, 4, 1, 1, false));
    x.period(1, 1, 1);
    x.packet(1, 0);
    due("a packet without subsets", x.hear(0), 0);
  }

  private static void noneWithoutOne() {
    due("NONE", CoverKeys.NONE, -1);
    Counted x = Sentences.busy();
    int[][] heldPeriods = {{2, -1, -1, -1}, {1, -1, -1, -1}, {-1, -1, -1, -1}};
    for (int d = 0; d < 3; d++) {
      for (int c = 0; c < 4; c++) due("decoder " + d + ", channel " + c, x.has(d, c), heldPeriods[d][c]);
    }
    due("the last decoder and channel", x.has(7, 3), 1);
    due("without a period of that channel", x.has(7, 2), -1);
    x.install(2);
    for (int c = 0; c < 4; c++) due("one just installed", x.has(2, c), -1);
  }

  private static void latestKey() {
    Counted x = new Counted();
    for (int p = 1; p <= 3; p++) {
      x.period(3, p, -p);
      x.seal(3, 8, 0, 0);
      due("first half in period " + p, x.out(false), Sentences.mask(p, -p, 3 * 65536 + p, 8, false));
      due("second half in period " + p, x.out(true), Sentences.mask(p, -p, 3 * 65536 + p, 8, true));
    }
    x.period(0, 0, 0);
    x.seal(0, 0, 0, 0);
    due("all 0", x.out(false), Sentences.mask(0, 0, 1, 0, false));
  }

  private static void plainAgain() {
    Counted x = Sentences.small();
    long[][] blocks = {{0, 0}, {-1, 0}, {0, -1}, {Long.MIN_VALUE, Long.MAX_VALUE}, {5, 6}};
    for (long[] block : blocks) {
      for (long i : new long[] {0, -1, Long.MIN_VALUE}) {
        x.seal(0, i, block[0], block[1]);
        x.open(1, 0, i, x.out(false), x.out(true));
        due("first half", x.out(false), block[0]);
        due("second half", x.out(true), block[1]);
      }
    }
    x.seal(0, 1, 5, 6);
    x.open(1, 0, 2, x.out(false), x.out(true));
    due("not with another i", x.out(false) == 5 && x.out(true) == 6, false);
  }

  private static void theKeyThatItHas() {
    Counted x = Sentences.busy();
    x.open(1, 0, 6, 0, 0);
    due("that of the first period", x.out(false), Sentences.mask(5, 6, 1, 6, false));
    x.open(0, 0, 6, 0, 0);
    due("that of the second period", x.out(false), Sentences.mask(7, 8, 2, 6, false));
    x.period(0, 50, 60);
    x.open(0, 0, 6, 0, 0);
    due("not that of the latest one", x.out(false), Sentences.mask(7, 8, 2, 6, false));
    x.open(7, 3, -1, -1, -1);
    due("of the last decoder and channel", x.out(true), ~Sentences.mask(11, 12, 3 * 65536 + 1, -1, true));
    x.subscribe(0, 0, false);
    x.open(0, 0, 6, 0, 0);
    due("also of one that subscribes no more", x.out(false), Sentences.mask(7, 8, 2, 6, false));
  }

  private static void halvesOfTheOut() {
    Counted x = new Counted();
    x.period(0, 7, 7);
    x.seal(0, 1, -1, 0);
    due("first half", x.out(false), ~Sentences.mask(7, 7, 1, 1, false));
    due("second half", x.out(true), Sentences.mask(7, 7, 1, 1, true));
  }

  /** Nothing but seal and open makes an out. */
  private static void noughtAtFirst() {
    Counted x = new Counted();
    dueNoOut(x, "a new object");
    x.begin(3, 5, 5);
    dueNoOut(x, "begin");
    x.install(0);
    Sentences.subscribe(x, 0, 0);
    x.period(0, 1, 1);
    dueNoOut(x, "period");
    x.packet(0, 0);
    x.hear(0);
    dueNoOut(x, "hear");
    x.key(1, 3, true);
    x.label(0, 0, 2);
    dueNoOut(x, "key and label");
    due("a seal that throws", Sentences.thrownBy(x, y -> y.seal(1, 1, 1, 1)) == Sentences.STATE, true);
    due("an open that throws", Sentences.thrownBy(x, y -> y.open(0, 1, 1, 1, 1)) == Sentences.STATE, true);
    dueNoOut(x, "calls that throw");
  }

  private static void dueNoOut(Counted x, String what) {
    due("first half behind " + what, x.out(false), 0);
    due("second half behind " + what, x.out(true), 0);
  }

  private static void firstAndLastSubset() {
    Counted x = Sentences.withSubsets(128, 3);
    due("v of the first", x.subset(3, 0, false), 128);
    due("w of the first", x.subset(3, 0, true), 257);
    due("v of the last", x.subset(3, 127, false), 255);
    due("w of the last", x.subset(3, 127, true), 511);
    Counted all = Sentences.busy();
    due("v of the only one", all.subset(3, 0, false), 0);
    due("w of the only one", all.subset(3, 0, true), 0);
  }

  private static void noSuchSubset() {
    noneOf("two subsets, subset", Sentences::busy, (x, n) -> x.subset(1, n, false), -1, 2, 3, 128, LARGEST, LEAST);
    noneOf("one subset, subset", Sentences::busy, (x, n) -> x.subset(3, n, true), -1, 1);
    noneOf("128 subsets, subset", () -> Sentences.withSubsets(128, 1), (x, n) -> x.subset(1, n, true), -1, 128);
    noneOf("no subsets, subset", PromiseBoundaryTest::shortAfterLong, (x, n) -> x.subset(2, n, true), -1, 0, 1);
  }

  private static void firstAndLastLabel() {
    int[][] depthsAndLabels = {{1, 1}, {4, 10}, {8, 36}};
    for (int[] s : depthsAndLabels) {
      int leaves = 1 << s[0];
      Counted x = Sentences.tree(s[0], 8, 9);
      x.install(0);
      dueLabel(x, 0, 1, 3);
      dueLabel(x, s[1] - 1, leaves / 2, leaves + 1);
    }
  }

  private static void dueLabel(Counted x, int k, int v, int w) {
    due("v of label " + k, x.label(0, k, 0), v);
    due("w of label " + k, x.label(0, k, 1), w);
    due("first half of label " + k, x.label(0, k, 2), Model.half(Sentences.label(8, 9, v, w), false));
    due("second half of label " + k, x.label(0, k, 3), Model.half(Sentences.label(8, 9, v, w), true));
  }

  private static void noSuchLabel() {
    for (int none : new int[] {-1, 4, 5, 256, LARGEST, LEAST}) {
      refused("what = " + none, Sentences.ARGUMENT, Sentences::busy, x -> x.label(0, 0, none));
    }
    for (int none : new int[] {-1, 6, 7, 36, 256, LARGEST, LEAST}) {
      for (int what = 0; what < 4; what++) {
        int of = what;
        refused("label " + none + " of six", Sentences.ARGUMENT, Sentences::busy, x -> x.label(7, none, of));
      }
    }
    refused("a second label at depth 1", Sentences.ARGUMENT, Sentences::small, x -> x.label(1, 1, 0));
    refused("label 36 at depth 8", Sentences.ARGUMENT, Sentences::deep, x -> x.label(255, 36, 0));
    refused("neither", Sentences.ARGUMENT, Sentences::busy, x -> x.label(0, 6, 4));
  }

  private static void leastAndMostReach() {
    Counted x = Sentences.busy();
    due("one in the cover", x.reach(0, 1), 1);
    due("one outside it", x.reach(1, 1), 0);
    due("one that subscribes to nothing of it", x.reach(7, 1), 0);
    for (int d : new int[] {0, 1, 4, 7}) due("all are in it", x.reach(d, 3), 1);
    x.period(2, 1, 1);
    x.subscribe(5, 2, false);
    due("before the latest", x.reach(4, 2), 0);
    x.period(2, 1, 1);
    due("a header without subsets", x.reach(4, 2), 0);
    Counted most = Sentences.withSubsets(128, 0);
    for (int d : new int[] {0, 1, 254, 255}) {
      most.install(d);
      due("of 128 subsets, to " + d, most.reach(d, 0), 1 - d % 2);
    }
  }

  private static void leastAndGreatestSubset() {
    int[][] subsets = {{0, 0}, {1, 2}, {1, 3}, {1, 256}, {1, 511}, {128, 256}, {255, 511}, {127, 509}};
    Counted x = Sentences.tree(8, -5, 5);
    for (int[] s : subsets) {
      byte[] key = Sentences.subsetKey(-5, 5, s[0], s[1]);
      due("first half of (" + s[0] + ", " + s[1] + ")", x.key(s[0], s[1], false), Model.half(key, false));
      due("second half of (" + s[0] + ", " + s[1] + ")", x.key(s[0], s[1], true), Model.half(key, true));
    }
  }

  private static void noneOfThisTree() {
    int[][] none = {
      {0, 1}, {1, 0}, {0, -1}, {-1, 0}, {1, 1}, {2, 1}, {8, 8}, {15, 15}, {2, 3}, {3, 2}, {2, 6}, {4, 3}, {1, 16}, {1, 17},
      {8, 16}, {7, 31}, {16, 32}, {-1, -1}, {-1, -2}, {-1, 2}, {1, -2}, {1, LARGEST}, {1, LEAST}, {LARGEST, LARGEST},
      {LEAST, LEAST}, {LEAST, 0}, {0, LEAST}, {LARGEST, 0}, {0, LARGEST}, {1, 1 << 30}, {257, 3}, {1, 259}, {65536, 65536},
      {1 << 30, LEAST}, {1 << 23, LEAST}, {LARGEST, -2}, {LARGEST, -1}
    };
    for (int[] s : none) {
      String subset = "(" + s[0] + ", " + s[1] + ")";
      refused(subset, Sentences.ARGUMENT, Sentences::busy, x -> x.key(s[0], s[1], false));
      refused(subset + ", second half", Sentences.ARGUMENT, Sentences::busy, x -> x.key(s[0], s[1], true));
    }
    refused("(1, 4) at depth 1", Sentences.ARGUMENT, Sentences::small, x -> x.key(1, 4, true));
    refused("(2, 4) at depth 1", Sentences.ARGUMENT, Sentences::small, x -> x.key(2, 4, true));
    refused("(1, 512) at depth 8", Sentences.ARGUMENT, Sentences::deep, x -> x.key(1, 512, true));
    refused("(256, 512) at depth 8", Sentences.ARGUMENT, Sentences::deep, x -> x.key(256, 512, true));
    refused("(511, 1023) at depth 8", Sentences.ARGUMENT, Sentences::deep, x -> x.key(511, 1023, true));
  }

  private static void leastAndMostCounts() {
    Counted x = Sentences.tree(1, 1, 1);
    int[] least = {1, 0, 0, 0, 0, 0, 0, 0};
    for (int what = 0; what < 8; what++) due("least count " + what, x.count(what), least[what]);
    for (int c = 0; c < 4; c++) {
      for (int d = 0; d < 2; d++) x.subscribe(d, c, true);
    }
    due("each channel's subscribers", x.count(2), 8);
    x.subscribe(1, 1, true);
    due("no more of them", x.count(2), 8);
    x.subscribe(1, 1, false);
    due("one less", x.count(2), 7);
    Counted most = Sentences.withSubsets(128, 2);
    for (int d = 0; d < 256; d++) most.install(d);
    most.packet(2, 15);
    int[] greatest = {8, 256, 128, 229, 0, 0, 1, 0};
    for (int what = 0; what < 8; what++) due("greatest count " + what, most.count(what), greatest[what]);
  }

  private static void periodsOfEachChannel() {
    Counted x = new Counted();
    for (int c = 0; c < 4; c++) {
      due("before the first one", x.count(4 + c), 0);
      for (int p = 1; p <= c + 1; p++) {
        x.period(c, 1, 1);
        due("periods", x.count(4 + c), p);
      }
    }
    for (int c = 0; c < 4; c++) due("periods of each", x.count(4 + c), c + 1);
  }

  private static void noSuchCount() {
    for (int none : new int[] {-1, 8, 9, 256, LARGEST, LEAST}) {
      refused("count(" + none + ")", Sentences.ARGUMENT, Sentences::busy, x -> x.count(none));
      refused("count(" + none + ") of a new object", Sentences.ARGUMENT, Counted::new, x -> x.count(none));
    }
  }

  /** Where a comment names another exception for something that is not there, that one is thrown. */
  private static void whatTheCommentsName() {
    refused("no such packet", Sentences.ARGUMENT, Sentences::busy, x -> x.packet(0, 1));
    refused("no such label", Sentences.ARGUMENT, Sentences::busy, x -> x.label(0, 6, 0));
    refused("no such depth", Sentences.ARGUMENT, Sentences::busy, x -> x.begin(9, 0, 0));
    refused("no such subset of the tree", Sentences.ARGUMENT, Sentences::busy, x -> x.key(1, 16, true));
    refused("no such channel, of a subset", Sentences.STATE, Sentences::busy, x -> x.subset(4, 0, true));
  }

  private static void nothingOfTheKind() {
    refused("decoder", Sentences.INDEX, Sentences::busy, x -> x.has(8, 0));
    refused("channel", Sentences.INDEX, Sentences::busy, x -> x.has(0, 4));
    refused("byte", Sentences.INDEX, Sentences::busy, x -> x.air(61));
    refused("packet, so no byte of it", Sentences.INDEX, Counted::new, x -> x.air(0));
    refused("subset of a header", Sentences.INDEX, Sentences::busy, x -> x.subset(0, 1, true));
    refused("decoder, so no label of it", Sentences.INDEX, Sentences::busy, x -> x.label(8, 0, 0));
  }

  private static void theOneNamedFirst() {
    Supplier<Counted> busy = Sentences::busy;
    refused("packet: no channel, no packet", Sentences.INDEX, busy, x -> x.packet(4, -1));
    refused("packet: no channel of a new object", Sentences.INDEX, Counted::new, x -> x.packet(-1, 0));
    refused("packet: no period, no packet", Sentences.STATE, busy, x -> x.packet(2, 1));
    refused("packet: no period, less than none", Sentences.STATE, Counted::new, x -> x.packet(0, -1));
    refused("hear: no decoder, nothing on the air", Sentences.INDEX, Counted::new, x -> x.hear(16));
    refused("hear: less than none, nothing on the air", Sentences.INDEX, Counted::new, x -> x.hear(-1));
    refused("seal: no channel of a new object", Sentences.INDEX, Counted::new, x -> x.seal(4, 0, 0, 0));
    refused("open: no decoder, no key of any", Sentences.INDEX, Counted::new, x -> x.open(16, 0, 0, 0, 0));
    refused("open: no channel, no key of any", Sentences.INDEX, Counted::new, x -> x.open(0, 4, 0, 0, 0));
    refused("open: no channel, not installed", Sentences.INDEX, busy, x -> x.open(2, -1, 0, 0, 0));
    refused("open: neither", Sentences.INDEX, busy, x -> x.open(8, 4, 0, 0, 0));
    refused("subset: no period, no subset", Sentences.STATE, busy, x -> x.subset(2, -1, true));
    refused("subset: no channel, no subset", Sentences.STATE, busy, x -> x.subset(4, -1, true));
    refused("subset: less than none, too many", Sentences.STATE, busy, x -> x.subset(-1, 128, false));
    refused("label: no decoder, no label, what is none", Sentences.INDEX, busy, x -> x.label(8, 6, 4));
    refused("label: no decoder, no label", Sentences.INDEX, busy, x -> x.label(-1, -1, 0));
    refused("label: no decoder, what is none", Sentences.INDEX, busy, x -> x.label(8, 0, -1));
    refused("label: not installed, no label", Sentences.STATE, busy, x -> x.label(2, 6, 0));
    refused("label: not installed, what is none", Sentences.STATE, busy, x -> x.label(2, 0, 4));
    refused("reach: no decoder, no period", Sentences.INDEX, busy, x -> x.reach(8, 2));
    refused("reach: no channel, not installed", Sentences.INDEX, busy, x -> x.reach(2, 4));
    refused("reach: neither", Sentences.INDEX, Counted::new, x -> x.reach(-1, -1));
  }

  /** One after the other on one object: what a single call hides might show when they come together. */
  private static void manyRefusedCalls() {
    List<Consumer<Counted>> calls = new ArrayList<>(List.of(
        x -> x.begin(9, 5, 5), x -> x.install(8), x -> x.install(0), x -> x.subscribe(3, 4, true),
        x -> x.subscribe(8, 0, true), x -> x.subscribe(-1, 0, false), x -> x.period(4, 5, 5), x -> x.packet(4, 0),
        x -> x.packet(2, 0), x -> x.packet(0, 1), x -> x.air(61), x -> x.flip(61, 1), x -> x.flip(-1, 1),
        x -> x.hear(8), x -> x.hear(2), x -> x.has(8, 0), x -> x.has(0, 4), x -> x.seal(4, 1, 1, 1),
        x -> x.seal(2, 1, 1, 1), x -> x.open(8, 0, 1, 1, 1), x -> x.open(0, 4, 1, 1, 1), x -> x.open(4, 0, 1, 1, 1),
        x -> x.subset(2, 0, true), x -> x.subset(4, 0, true), x -> x.subset(1, 2, true), x -> x.label(8, 0, 0),
        x -> x.label(2, 0, 0), x -> x.label(0, 6, 2), x -> x.label(0, 0, 4), x -> x.reach(8, 0), x -> x.reach(0, 2),
        x -> x.reach(2, 0), x -> x.key(1, 1, true), x -> x.count(8)));
    for (Consumer<Counted> call : calls) due("it throws", Sentences.thrownBy(Sentences.busy(), call) != null, true);
    Sentences.same("behind all of them", Sentences::busy, () -> {
      Counted x = Sentences.busy();
      for (Consumer<Counted> call : calls) Sentences.thrownBy(x, call);
      return x;
    });
  }
}
