import java.util.function.Consumer;
import java.util.function.Supplier;

/** Each promise of the document by its number: ordinary inputs, edges, wrong inputs. */
public final class PromiseTest {
  private static final Class<?> INDEX = IndexOutOfBoundsException.class;
  private static final Class<?> STATE = IllegalStateException.class;
  private static final Class<?> ARGUMENT = IllegalArgumentException.class;
  private static final int LARGEST = Integer.MAX_VALUE;
  private static final int LEAST = Integer.MIN_VALUE;

  public static void main(String[] args) {
    Sentences.sentence("promise 1: A new object", PromiseTest::newObject);
    Sentences.sentence("promise 2: begin", PromiseTest::begin);
    Sentences.sentence("promise 3: install", PromiseTest::install);
    Sentences.sentence("promise 4: subscribe", PromiseTest::subscribe);
    Sentences.sentence("promise 5: period", PromiseTest::period);
    Sentences.sentence("promise 6: packet", PromiseTest::packet);
    Sentences.sentence("promise 7: air", PromiseTest::air);
    Sentences.sentence("promise 8: flip", PromiseTest::flip);
    Sentences.sentence("promise 9: hear", PromiseTest::hear);
    Sentences.sentence("promise 10: has", PromiseTest::has);
    Sentences.sentence("promise 11: seal", PromiseTest::seal);
    Sentences.sentence("promise 12: open", PromiseTest::open);
    Sentences.sentence("promise 13: out", PromiseTest::out);
    Sentences.sentence("promise 14: subset", PromiseTest::subset);
    Sentences.sentence("promise 15: label", PromiseTest::label);
    Sentences.sentence("promise 16: reach", PromiseTest::reach);
    Sentences.sentence("promise 17: key", PromiseTest::key);
    Sentences.sentence("promise 18: count", PromiseTest::count);
    Sentences.end();
  }

  private static void due(String what, long got, long want) {
    Sentences.due(what, got, want);
  }

  private static void due(String what, boolean got, boolean want) {
    Sentences.due(what, got, want);
  }

  private static void refused(String what, Class<?> due, Supplier<Counted> twin, Consumer<Counted> call) {
    Sentences.refused(what, due, twin, call);
  }

  private static boolean installed(Counted x, int d) {
    return Sentences.thrownBy(x, y -> y.label(d, 0, 0)) == null;
  }

  private static int subsets(Counted x, int channel) {
    int n = 0;
    while (n <= 128 && isSubset(x, channel, n)) n++;
    return n;
  }

  private static boolean isSubset(Counted x, int channel, int n) {
    return Sentences.thrownBy(x, y -> y.subset(channel, n, false)) == null;
  }

  private static void subscribeEven(Counted x, int channel) {
    int leaves = 1 << x.count(0);
    for (int d = 0; d < leaves; d += 2) x.subscribe(d, channel, true);
  }

  /** Something of everything: 0 and 1 installed, channel 0 heard by 0, channel 1 with a period that is not on the air. */
  private static Counted busy() {
    Counted x = Sentences.tree(3, 1, 2);
    x.install(0);
    x.install(1);
    Sentences.subscribe(x, 0, 0, 1, 2, 4, 5, 6, 7);
    x.subscribe(6, 1, true);
    x.period(1, 7, 8);
    x.period(0, 5, 6);
    x.packet(0, 0);
    x.hear(0);
    x.seal(0, 1, 2, 3);
    return x;
  }

  private static byte[] sealed(long keyHigh, long keyLow, long high, long low) {
    return Model.aes(true, Model.bytes(keyHigh, keyLow), Model.bytes(high, low));
  }

  private static byte[] next(byte[] label, int block) {
    return Model.aes(true, label, Model.bytes(0, block));
  }

  private static void newObject() {
    Counted x = new Counted();
    due("the depth", x.count(0), 4);
    for (int what = 1; what < 8; what++) due("count " + what, x.count(what), 0);
    due("out", x.out(false) | x.out(true), 0);
    due("the key of (0, 0)", x.key(0, 0, false), 0x66e94bd4ef8a2c3bL);
    due("its second half", x.key(0, 0, true), 0x884cfa59ca342b2eL);
    for (int d = 0; d < 16; d++) due("installed " + d, installed(x, d), false);
    Sentences.same("as behind begin(4, 0, 0)", Counted::new, () -> Sentences.tree(4, 0, 0));
    due("NONE", CoverKeys.NONE, -1);
  }

  private static void begin() {
    for (int depth = 1; depth <= 8; depth++) {
      Counted x = busy();
      long high = x.out(false);
      long low = x.out(true);
      x.begin(depth, 3, 4);
      due("the depth", x.count(0), depth);
      for (int what = 1; what < 8; what++) due("count " + what, x.count(what), 0);
      due("the out stays", x.out(false) == high && x.out(true) == low, true);
      due("the seed is new", x.key(0, 0, false), Model.half(sealed(3, 4, 0, 0), false));
      due("no key is left", x.has(0, 0), -1);
      due("none is installed", installed(x, 0) || installed(x, 1), false);
      due("none subscribes", x.period(0, 1, 1), 0);
      x.install(0);
      due("nor behind install", x.has(0, 0), -1);
    }
    for (int none : new int[] {0, 9, -1, LARGEST, LEAST}) {
      refused("begin(" + none + ")", ARGUMENT, PromiseTest::busy, x -> x.begin(none, 9, 9));
    }
  }

  private static Counted firstAndLastInstalled(int depth) {
    Counted x = Sentences.tree(depth, 0, 0);
    x.install(0);
    x.install((1 << depth) - 1);
    return x;
  }

  private static void install() {
    for (int depth = 1; depth <= 8; depth++) {
      int leaves = 1 << depth;
      Counted x = Sentences.tree(depth, 0, 0);
      due("install(0) of depth " + depth, x.install(0), depth * (depth + 1) / 2);
      due("install(last)", x.install(leaves - 1), depth * (depth + 1) / 2);
      due("installed", x.count(1), 2);
      int d = depth;
      Supplier<Counted> two = () -> firstAndLastInstalled(d);
      refused("install(behind the last)", INDEX, two, y -> y.install(leaves));
      refused("install(-1)", INDEX, two, y -> y.install(-1));
      refused("install(0) again", STATE, two, y -> y.install(0));
    }
    refused("one that has a key", STATE, PromiseTest::busy, x -> x.install(0));
    Counted x = busy();
    x.subscribe(4, 2, true);
    due("a subscriber", x.install(4), 6);
  }

  private static void subscribe() {
    Counted x = Sentences.tree(2, 0, 0);
    due("a new one", x.subscribe(3, 3, true), true);
    due("once more", x.subscribe(3, 3, true), false);
    due("of another channel", x.subscribe(3, 0, true), true);
    due("one that is none", x.subscribe(2, 3, false), false);
    due("all", x.count(2), 2);
    due("no more", x.subscribe(3, 3, false), true);
    due("no more, again", x.subscribe(3, 3, false), false);
    due("all", x.count(2), 1);
    Counted y = busy();
    due("a header stays", y.subscribe(0, 0, false), true);
    due("its subset", y.subset(0, 0, true), 11);
    for (int none : new int[] {-1, 8, LARGEST, LEAST}) {
      refused("decoder " + none, INDEX, PromiseTest::busy, z -> z.subscribe(none, 0, true));
    }
    for (int none : new int[] {-1, 4, LARGEST, LEAST}) {
      refused("channel " + none, INDEX, PromiseTest::busy, z -> z.subscribe(3, none, true));
    }
  }

  /** That there were 999 takes more calls than an object is used for: PromiseBoundaryTest has it. */
  private static void period() {
    Counted x = Sentences.tree(3, 0, 0);
    due("without subscribers", x.period(0, 1, 1), 0);
    Sentences.subscribeAll(x, 0);
    due("all subscribe", x.period(0, 1, 1), 1);
    x.subscribe(0, 0, false);
    due("all but one", x.period(0, 1, 1), 1);
    x.subscribe(7, 0, false);
    due("all but two", x.period(0, 1, 1), 2);
    due("periods", x.count(4), 4);
    due("of another channel", x.count(5), 0);
    Counted deep = Sentences.tree(8, 0, 0);
    subscribeEven(deep, 2);
    due("every other one of 256", deep.period(2, 1, 1), 128);
    due("the last subset", deep.subset(2, 127, true), 511);
    for (int none : new int[] {4, -1, LARGEST, LEAST}) {
      refused("channel " + none, INDEX, PromiseTest::busy, y -> y.period(none, 1, 1));
    }
  }

  private static Counted fourteenSubsets() {
    Counted x = Sentences.tree(5, 1, 2);
    for (int d = 4; d < 32; d += 2) x.subscribe(d, 1, true);
    due("fourteen subsets", x.period(1, 0x0011223344556677L, 0x8899aabbccddeeffL), 14);
    return x;
  }

  private static void packet() {
    Counted x = fourteenSubsets();
    due("eight of them", x.packet(1, 0), 229);
    due("the other six", x.packet(1, 1), 173);
    due("on the air", x.count(3), 173);
    int[] head = {1, 0, 1, 1, 2};
    for (int i = 0; i < 5; i++) due("byte " + i, x.air(i), head[i]);
    for (int n = 8; n < 14; n++) dueEntry(x, 1, n, 5 + 28 * (n - 8));
    Supplier<Counted> twin = PromiseTest::fourteenSubsets;
    for (int none : new int[] {2, -1, LARGEST, LEAST}) refused("packet " + none, ARGUMENT, twin, y -> y.packet(1, none));
    refused("no period", STATE, twin, y -> y.packet(0, 0));
    refused("no period, no packet", STATE, twin, y -> y.packet(0, -1));
    refused("no channel", INDEX, twin, y -> y.packet(4, 0));
    refused("no channel, no packet", INDEX, twin, y -> y.packet(-1, -1));
    shortAndLatePackets();
    deepPackets();
  }

  private static void shortAndLatePackets() {
    Counted x = busy();
    due("without subsets", x.period(3, 1, 1), 0);
    due("its packet", x.packet(3, 0), 5);
    due("one of", x.air(4), 1);
    due("no second one", Sentences.thrownBy(x, y -> y.packet(3, 1)) == ARGUMENT, true);
    for (int p = 2; p <= 300; p++) x.period(3, 1, 1);
    due("the period in two bytes", x.packet(3, 0) + 256 * x.air(1) + x.air(2), 305);
  }

  private static void deepPackets() {
    Counted x = Sentences.withSubsets(128, 2);
    due("the last of sixteen", x.packet(2, 15), 229);
    due("its number", x.air(3), 15);
    due("of", x.air(4), 16);
    refused("a seventeenth", ARGUMENT, () -> Sentences.withSubsets(128, 2), y -> y.packet(2, 16));
    Counted nine = Sentences.withSubsets(9, 0);
    due("the ninth alone", nine.packet(0, 1), 33);
    due("of two", nine.air(4), 2);
    due("the eight before it", nine.packet(0, 0), 229);
    refused("a third", ARGUMENT, () -> Sentences.withSubsets(9, 0), y -> y.packet(0, 2));
  }

  private static void dueEntry(Counted x, int channel, int n, int at) {
    int v = x.subset(channel, n, false);
    int w = x.subset(channel, n, true);
    byte[] key = Model.bytes(x.key(v, w, false), x.key(v, w, true));
    byte[] wrapped = Model.wrapped(key, Model.bytes(0x0011223344556677L, 0x8899aabbccddeeffL));
    due("v", 256 * x.air(at) + x.air(at + 1), v);
    due("w", 256 * x.air(at + 2) + x.air(at + 3), w);
    for (int b = 0; b < 24; b++) due("wrapped byte " + b, x.air(at + 4 + b), wrapped[b] & 255);
  }

  private static Counted shorterPacket() {
    Counted x = busy();
    x.subscribe(6, 1, false);
    x.period(1, 9, 9);
    x.packet(1, 0);
    return x;
  }

  private static void air() {
    refused("nothing on the air", INDEX, Counted::new, x -> x.air(0));
    Counted x = busy();
    due("the channel", x.air(0), 0);
    due("the period", x.air(2), 1);
    due("the subset's w", x.air(8), 11);
    for (int i = 0; i < 33; i++) due("a byte", x.air(i) >= 0 && x.air(i) <= 255, true);
    x.packet(1, 0);
    due("another packet", x.air(0), 1);
    x.period(1, 9, 9);
    due("it stays when a period begins", x.air(2), 1);
    for (int none : new int[] {33, -1, LARGEST, LEAST}) refused("byte " + none, INDEX, PromiseTest::busy, y -> y.air(none));
    refused("a shorter packet", INDEX, PromiseTest::shorterPacket, y -> y.air(5));
  }

  private static void flip() {
    Counted x = busy();
    int before = x.air(20);
    x.flip(20, 0x5A);
    due("changed", x.air(20), before ^ 0x5A);
    x.flip(20, 0xFFFFFF00);
    due("high bits count nothing", x.air(20), before ^ 0x5A);
    x.flip(20, -1);
    due("all eight bits", x.air(20), before ^ 0xA5);
    int last = x.air(32);
    x.flip(32, 1);
    due("the last byte", x.air(32), last ^ 1);
    x.flip(0, 0);
    due("by nothing", x.air(0), 0);
    x.packet(0, 0);
    due("the header stays right", x.air(20), before);
    for (int none : new int[] {33, -1, LARGEST, LEAST}) refused("byte " + none, INDEX, PromiseTest::busy, y -> y.flip(none, 1));
    refused("a shorter packet", INDEX, PromiseTest::shorterPacket, y -> y.flip(5, 1));
    refused("nothing on the air", INDEX, Counted::new, y -> y.flip(0, 0));
  }

  private static void hear() {
    Counted x = busy();
    due("a subscriber", x.hear(1), 1);
    x.install(3);
    due("none", x.hear(3), 0);
    due("it has nothing", x.has(3, 0), -1);
    x.flip(9, 1);
    due("a spoilt key", x.hear(1), -1);
    due("nothing to another", x.hear(3), 0);
    due("the key before stays", x.has(1, 0), 1);
    x.flip(9, 1);
    x.flip(5, 1);
    due("a subset of no tree", x.hear(1), 0);
    x.flip(5, 1);
    x.flip(6, 1);
    due("(0, 11)", x.hear(1), 0);
    x.flip(8, 11);
    due("(0, 0)", x.hear(3), -1);
    x.flip(6, 1);
    due("(1, 0)", x.hear(1), 0);
    x.flip(8, 1);
    due("(1, 1)", x.hear(1), 0);
    x.flip(8, 1 ^ 9);
    due("(1, 9) to that leaf", x.hear(1), 0);
    due("(1, 9) to another", x.hear(0), -1);
    x.flip(8, 9 ^ 4);
    due("(1, 4), above the leaf", x.hear(1), 0);
    x.flip(8, 4 ^ 16);
    due("(1, 16)", x.hear(1), 0);
    hearHead();
    hearInOrder();
    hearNothing();
  }

  /** The first five bytes are believed as they come. */
  private static void hearHead() {
    Counted x = busy();
    x.flip(0, 3);
    x.flip(1, 255);
    x.flip(2, 255);
    x.flip(3, 77);
    x.flip(4, 77);
    due("another channel", x.hear(1), 1);
    due("and period", x.has(1, 3), 65534);
    due("not its own", x.has(1, 0), -1);
    x.flip(1, 255);
    x.flip(2, 254);
    due("period 0", x.hear(1) + x.has(1, 3), 1);
    x.flip(0, 7);
    due("channel 4", x.hear(1), 0);
    x.flip(0, 4 ^ 255);
    due("channel 255", x.hear(1), 0);
    x.flip(9, 1);
    due("channel 255, spoilt", x.hear(1), 0);
    due("it has what it had", x.has(1, 3), 0);
  }

  private static void hearInOrder() {
    Counted x = Sentences.tree(3, 1, 2);
    x.install(0);
    x.install(4);
    Sentences.subscribe(x, 0, 0, 4);
    x.period(0, 5, 6);
    due("two subsets", x.packet(0, 0), 61);
    for (int i = 5; i < 9; i++) x.flip(i, x.air(i));
    due("first broken, then right", x.hear(4), 1);
    due("broken, and the other is not for it", x.hear(0), -1);
    due("none", x.has(0, 0), -1);
    x.packet(0, 0);
    for (int i = 33; i < 37; i++) x.flip(i, x.air(i));
    due("right first", x.hear(0), 1);
    due("not the first, and broken", x.hear(4), -1);
  }

  private static Counted oneInstalled() {
    Counted x = new Counted();
    x.install(2);
    return x;
  }

  private static void hearNothing() {
    refused("no decoder", INDEX, PromiseTest::busy, x -> x.hear(8));
    refused("less than none", INDEX, PromiseTest::busy, x -> x.hear(-1));
    refused("not installed", STATE, PromiseTest::busy, x -> x.hear(2));
    refused("nothing on the air", STATE, PromiseTest::oneInstalled, x -> x.hear(2));
    refused("neither", STATE, PromiseTest::oneInstalled, x -> x.hear(3));
    refused("no decoder, nothing on the air", INDEX, PromiseTest::oneInstalled, x -> x.hear(16));
  }

  private static void has() {
    Counted x = busy();
    due("one that heard", x.has(0, 0), 1);
    due("of another channel", x.has(0, 1), CoverKeys.NONE);
    due("one that heard nothing", x.has(1, 0), CoverKeys.NONE);
    due("not installed", x.has(7, 3), CoverKeys.NONE);
    x.period(0, 9, 9);
    due("a new period", x.has(0, 0), 1);
    x.packet(0, 0);
    x.hear(0);
    due("heard", x.has(0, 0), 2);
    refused("no decoder", INDEX, PromiseTest::busy, y -> y.has(8, 0));
    refused("less than none", INDEX, PromiseTest::busy, y -> y.has(-1, 0));
    refused("no channel", INDEX, PromiseTest::busy, y -> y.has(0, 4));
    refused("no channel", INDEX, PromiseTest::busy, y -> y.has(0, -1));
  }

  private static void seal() {
    Counted x = busy();
    x.period(3, -1, 77);
    x.period(3, 12, 0x8000000000000000L);
    x.seal(3, -5, 100, -200);
    byte[] with = sealed(12, 0x8000000000000000L, 3 * 65536 + 2, -5);
    due("first half", x.out(false), 100 ^ Model.half(with, false));
    due("second half", x.out(true), -200 ^ Model.half(with, true));
    x.seal(3, -5, x.out(false), x.out(true));
    due("twice is nothing", x.out(false) == 100 && x.out(true) == -200, true);
    refused("no channel", INDEX, PromiseTest::busy, y -> y.seal(4, 0, 0, 0));
    refused("no channel", INDEX, PromiseTest::busy, y -> y.seal(-1, 0, 0, 0));
    refused("no period", STATE, PromiseTest::busy, y -> y.seal(2, 0, 0, 0));
  }

  private static void open() {
    Counted x = busy();
    x.period(0, 50, 60);
    x.open(0, 0, 9, 1, 2);
    byte[] with = sealed(5, 6, 1, 9);
    due("with the key and period that it has", x.out(false), 1 ^ Model.half(with, false));
    due("second half", x.out(true), 2 ^ Model.half(with, true));
    x.packet(0, 0);
    x.flip(0, 2);
    x.flip(1, 255);
    x.hear(0);
    x.open(0, 2, -9, 0, 0);
    due("a channel and period by error", x.out(true), Model.half(sealed(50, 60, 2 * 65536 + 65282, -9), true));
    x.flip(0, 2);
    x.flip(1, 255);
    x.hear(0);
    x.seal(0, 3, 4, 5);
    x.open(0, 0, 3, x.out(false), x.out(true));
    due("plain again", x.out(false) == 4 && x.out(true) == 5, true);
    refused("no decoder", INDEX, PromiseTest::busy, y -> y.open(8, 0, 0, 0, 0));
    refused("less than none", INDEX, PromiseTest::busy, y -> y.open(-1, 0, 0, 0, 0));
    refused("no channel", INDEX, PromiseTest::busy, y -> y.open(0, 4, 0, 0, 0));
    refused("no channel", INDEX, PromiseTest::busy, y -> y.open(0, -1, 0, 0, 0));
    refused("no key of that channel", STATE, PromiseTest::busy, y -> y.open(0, 1, 0, 0, 0));
    refused("no key", STATE, PromiseTest::busy, y -> y.open(1, 0, 0, 0, 0));
    refused("not installed", STATE, PromiseTest::busy, y -> y.open(5, 0, 0, 0, 0));
  }

  private static void out() {
    Counted x = new Counted();
    due("first half at first", x.out(false), 0);
    due("second half at first", x.out(true), 0);
    x.period(0, 0, 0);
    x.seal(0, 0, 0, 0);
    due("first half", x.out(false), Model.half(sealed(0, 0, 1, 0), false));
    due("second half", x.out(true), Model.half(sealed(0, 0, 1, 0), true));
  }

  private static Counted threeSubsets() {
    Counted x = Sentences.tree(3, 0, 0);
    Sentences.subscribe(x, 0, 0, 1, 3, 4, 7);
    due("subsets", x.period(0, 1, 1), 3);
    return x;
  }

  private static void subset() {
    Counted x = threeSubsets();
    int[] due = {2, 10, 6, 13, 7, 14};
    for (int n = 0; n < 3; n++) {
      due("v of " + n, x.subset(0, n, false), due[2 * n]);
      due("w of " + n, x.subset(0, n, true), due[2 * n + 1]);
    }
    Supplier<Counted> twin = PromiseTest::threeSubsets;
    for (int none : new int[] {3, -1, LARGEST, LEAST}) refused("subset " + none, INDEX, twin, y -> y.subset(0, none, true));
    refused("no period", STATE, twin, y -> y.subset(1, 0, true));
    refused("no channel", STATE, twin, y -> y.subset(4, 0, true));
    refused("no channel, no subset", STATE, twin, y -> y.subset(-1, -1, true));
    laterSubsets(x);
    deepSubsets();
  }

  private static void laterSubsets(Counted x) {
    for (int d : new int[] {0, 1, 3}) x.subscribe(d, 0, false);
    x.period(0, 1, 1);
    due("two left", subsets(x, 0), 2);
    for (int d : new int[] {4, 7}) x.subscribe(d, 0, false);
    x.period(0, 1, 1);
    due("none left", Sentences.thrownBy(x, y -> y.subset(0, 0, false)) == INDEX, true);
    for (int d : new int[] {4, 5, 6, 7}) x.subscribe(d, 0, true);
    x.period(0, 1, 1);
    due("one half: v", x.subset(0, 0, false), 1);
    due("one half: w", x.subset(0, 0, true), 2);
    Sentences.subscribeAll(x, 0);
    x.period(0, 1, 1);
    due("all: v and w", x.subset(0, 0, false) + x.subset(0, 0, true), 0);
    due("one alone", subsets(x, 0), 1);
    for (int d = 4; d < 8; d++) x.subscribe(d, 0, false);
    x.period(0, 1, 1);
    due("the other half: v", x.subset(0, 0, false), 1);
    due("the other half: w", x.subset(0, 0, true), 3);
  }

  private static Counted allButOne(int d) {
    Counted x = Sentences.tree(8, 1, 1);
    Sentences.subscribeAll(x, 0);
    x.subscribe(d, 0, false);
    due("all of 256 but one", x.period(0, 1, 1), 1);
    return x;
  }

  private static void deepSubsets() {
    for (int d : new int[] {0, 100, 255}) {
      Counted x = allButOne(d);
      due("its v", x.subset(0, 0, false), 1);
      due("its w", x.subset(0, 0, true), 256 + d);
    }
  }

  private static Counted labelled() {
    Counted x = Sentences.tree(3, 21, 22);
    x.install(5);
    return x;
  }

  private static void label() {
    Counted x = labelled();
    int[] due = {1, 2, 1, 7, 1, 12, 3, 7, 3, 12, 6, 12};
    for (int k = 0; k < 6; k++) {
      due("v of " + k, x.label(5, k, 0), due[2 * k]);
      due("w of " + k, x.label(5, k, 1), due[2 * k + 1]);
    }
    byte[] root = sealed(21, 22, 0, 1);
    byte[] at12 = next(next(next(root, 2), 1), 1);
    due("L(1, 2), first half", x.label(5, 0, 2), Model.half(next(root, 1), false));
    due("L(1, 12), first half", x.label(5, 2, 2), Model.half(at12, false));
    due("L(1, 12), second half", x.label(5, 2, 3), Model.half(at12, true));
    due("L(6, 12), second half", x.label(5, 5, 3), Model.half(next(sealed(21, 22, 0, 6), 1), true));
    Supplier<Counted> twin = PromiseTest::labelled;
    for (int none : new int[] {-1, 4, LARGEST, LEAST}) refused("what = " + none, ARGUMENT, twin, y -> y.label(5, 0, none));
    for (int none : new int[] {-1, 6, LARGEST, LEAST}) refused("label " + none, ARGUMENT, twin, y -> y.label(5, none, 0));
    refused("not installed", STATE, twin, y -> y.label(4, 0, 0));
    refused("not installed, no label", STATE, twin, y -> y.label(4, 99, 99));
    refused("no decoder", INDEX, twin, y -> y.label(8, 0, 0));
    refused("no decoder, no label", INDEX, twin, y -> y.label(-1, -1, -1));
  }

  private static void reach() {
    Counted x = busy();
    due("a subscriber", x.reach(1, 0), 1);
    due("none of that channel", x.reach(1, 1), 0);
    x.install(6);
    due("one of that channel", x.reach(6, 1), 1);
    x.subscribe(6, 1, false);
    due("as when the period began", x.reach(6, 1), 1);
    x.flip(5, 255);
    due("the air is nothing to it", x.reach(1, 0), 1);
    for (int d : new int[] {0, 100, 255}) {
      Counted deep = allButOne(d);
      deep.install(d);
      deep.install(d ^ 1);
      due("the one left out", deep.reach(d, 0), 0);
      due("its neighbour", deep.reach(d ^ 1, 0), 1);
    }
    Counted all = Sentences.tree(1, 0, 0);
    Sentences.subscribeAll(all, 3);
    all.period(3, 1, 1);
    all.install(1);
    due("the subset of all", all.reach(1, 3), 1);
    refused("no decoder", INDEX, PromiseTest::busy, y -> y.reach(8, 0));
    refused("no channel", INDEX, PromiseTest::busy, y -> y.reach(0, 4));
    refused("no channel, not installed", INDEX, PromiseTest::busy, y -> y.reach(2, -1));
    refused("not installed", STATE, PromiseTest::busy, y -> y.reach(2, 0));
    refused("no period", STATE, PromiseTest::busy, y -> y.reach(0, 2));
  }

  private static void key() {
    Counted x = Sentences.tree(3, 31, 32);
    byte[] all = sealed(31, 32, 0, 0);
    due("(0, 0)", x.key(0, 0, false), Model.half(all, false));
    due("(0, 0), second half", x.key(0, 0, true), Model.half(all, true));
    byte[] some = next(next(next(sealed(31, 32, 0, 2), 2), 1), 3);
    due("(2, 10)", x.key(2, 10, false), Model.half(some, false));
    due("(2, 10), second half", x.key(2, 10, true), Model.half(some, true));
    Counted deep = Sentences.tree(8, 31, 32);
    byte[] way = sealed(31, 32, 0, 1);
    for (int level = 0; level < 8; level++) way = next(way, 2);
    due("(1, 511) of depth 8", deep.key(1, 511, true), Model.half(next(way, 3), true));
    int subsets = 0;
    for (int v = -2; v < 20; v++) {
      for (int w = -2; w < 20; w++) subsets += isKey(x, v, w);
    }
    due("subsets of the tree", subsets, 1 + 14 + 2 * 6 + 4 * 2);
    refused("(1, 512) of depth 8", ARGUMENT, () -> Sentences.tree(8, 31, 32), y -> y.key(1, 512, true));
    int[][] none = {
      {0, 1}, {1, 0}, {1, 1}, {2, 1}, {2, 3}, {2, 6}, {8, 16}, {1, 16}, {15, 15}, {-1, -2}, {-1, 5}, {0, -1},
      {1, LARGEST}, {LARGEST, LARGEST}, {LEAST, LEAST}, {1 << 30, LEAST}, {LARGEST, -2}
    };
    for (int[] s : none) {
      refused("(" + s[0] + ", " + s[1] + ")", ARGUMENT, PromiseTest::busy, y -> y.key(s[0], s[1], false));
    }
  }

  private static int isKey(Counted x, int v, int w) {
    return Sentences.thrownBy(x, y -> y.key(v, w, false)) == null ? 1 : 0;
  }

  private static void count() {
    Counted x = busy();
    int[] due = {3, 2, 8, 33, 1, 1, 0, 0};
    for (int what = 0; what < 8; what++) due("count " + what, x.count(what), due[what]);
    x.subscribe(0, 3, true);
    due("one decoder, two channels", x.count(2), 9);
    x.period(3, 1, 1);
    x.period(3, 1, 1);
    due("periods of channel 3", x.count(7), 2);
    x.install(7);
    due("installed", x.count(1), 3);
    for (int none : new int[] {-1, 8, LARGEST, LEAST}) {
      refused("count " + none, ARGUMENT, PromiseTest::busy, y -> y.count(none));
    }
  }
}
