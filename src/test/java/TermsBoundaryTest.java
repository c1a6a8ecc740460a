import java.util.ArrayList;
import java.util.List;

/** Each sentence under "What it is" and "Terms" that names a boundary case, with a test of its own. */
public final class TermsBoundaryTest {
  private static final long ALL_ONES = -1L;

  public static void main(String[] args) {
    cipher();
    tree();
    cover();
    channels();
    hearing();
    Sentences.end();
  }

  private static void cipher() {
    Sentences.sentence("An object is used for at most 512 calls after it has been made", TermsBoundaryTest::lastCall);
    Sentences.sentence("Bytes are 0 .. 255", TermsBoundaryTest::bytes);
    Sentences.sentence("modulo x^8 + x^4 + x^3 + x + 1", TermsBoundaryTest::productsThatGoRound);
    Sentences.sentence("let c be the byte whose product with b is 1 (0 for 0)", TermsBoundaryTest::subOfEachByte);
    Sentences.sentence("but if i is a multiple of 4, in place of that: ... the product of i / 4 - 1 times the byte 2"
        + " (1 for none)", TermsBoundaryTest::roundKeys);
    Sentences.sentence("byte k of each column goes k columns to the left (round about)", TermsBoundaryTest::eachPlace);
    Sentences.sentence("but in the last round, of each column a b c d become", TermsBoundaryTest::publishedBlocks);
    Sentences.sentence("To DECRYPT undoes that", TermsBoundaryTest::undone);
    Sentences.sentence("twelve times, t = 1 .. 12, for R1 when t is odd, R2 else", TermsBoundaryTest::wrappedKeys);
    Sentences.sentence("it is RIGHT if A comes out as it was at first", TermsBoundaryTest::eachBitSpoilt);
  }

  private static void tree() {
    Sentences.sentence("It has a DEPTH D, 1 .. 8", TermsBoundaryTest::depths);
    Sentences.sentence("NODES 1 .. 2 to the (D + 1) less 1", TermsBoundaryTest::nodes);
    Sentences.sentence("decoder d, 0 .. 2 to the D less 1, is at the leaf 2 to the D and d", TermsBoundaryTest::leaves);
    Sentences.sentence("L(v, v) is the block of v (as a number of 16 bytes) encrypted under the seed",
        TermsBoundaryTest::firstLabels);
    Sentences.sentence("L(v, left child of x) is the block 1 encrypted under L(v, x), L(v, right child) the block 2",
        TermsBoundaryTest::labelsBelow);
    Sentences.sentence("THE SUBSET (v, w), w below v, has the leaves below (or at) v that are not below (or at) w",
        TermsBoundaryTest::leavesOfSubsets);
    Sentences.sentence("The subset (0, 0) has all leaves; its key is the block 0 encrypted under the seed",
        TermsBoundaryTest::subsetOfAll);
    Sentences.sentence("each w below v that is not above (or at) its leaf, but whose parent is: first by v, from the"
        + " root on, then by w, from above", TermsBoundaryTest::storedLabels);
    Sentences.sentence("or when the w of one of its labels with that v is the subset's w, or above it",
        TermsBoundaryTest::derivedAtAndBelow);
  }

  private static void cover() {
    Sentences.sentence("nodes are MARKED if a leaf at or below is no subscriber's", TermsBoundaryTest::oneIsNone);
    Sentences.sentence("Without marked ones it is the subset (0, 0)", TermsBoundaryTest::noneMarked);
    Sentences.sentence("for the root, if it is marked", TermsBoundaryTest::rootMarked);
    Sentences.sentence("each marked node whose parent has two marked children", TermsBoundaryTest::twoMarkedChildren);
    Sentences.sentence("one goes down from it, as long as just one child is marked, to that", TermsBoundaryTest::goesDown);
    Sentences.sentence("if another node is come to, (first, last) is a subset of the cover", TermsBoundaryTest::noOtherNode);
    Sentences.sentence("Its subsets stand by v", TermsBoundaryTest::subsetsByV);
  }

  private static void channels() {
    Sentences.sentence("There are channels 0 .. 3", TermsBoundaryTest::fourChannels);
    Sentences.sentence("each with subscribers (also decoders that are not installed)", TermsBoundaryTest::notInstalled);
    Sentences.sentence("and PERIODS 1, 2, .. 999", TermsBoundaryTest::periods);
    Sentences.sentence("the cover of its subscribers when it began", TermsBoundaryTest::whenItBegan);
    Sentences.sentence("PACKETS: each of up to eight of these, in order", TermsBoundaryTest::upToEight);
    Sentences.sentence("(the first one is there also without any)", TermsBoundaryTest::withoutAny);
    Sentences.sentence("the bytes channel, period (two), number of the packet, of packets", TermsBoundaryTest::headBytes);
    Sentences.sentence("for each v (two), w (two), wrapped key (24); numbers with the highest byte first",
        TermsBoundaryTest::entryBytes);
    Sentences.sentence("There is one packet on the AIR, or none", TermsBoundaryTest::oneOrNone);
    Sentences.sentence("(65536 times the channel and the period; i) encrypted under the period's key",
        TermsBoundaryTest::largestNumbers);
  }

  private static void hearing() {
    Sentences.sentence("a packet of another channel than 0 .. 3 is nothing to it", TermsBoundaryTest::otherChannels);
    Sentences.sentence("if the subset is one of this tree", TermsBoundaryTest::otherTrees);
    Sentences.sentence("and its key can be derived, it is unwrapped", TermsBoundaryTest::notDerived);
    Sentences.sentence("the decoder has this key for the channel, with the period that the packet says",
        TermsBoundaryTest::periodOfThePacket);
    Sentences.sentence("in place of the one before", TermsBoundaryTest::olderInPlaceOfNewer);
    Sentences.sentence("and what follows is not looked at", TermsBoundaryTest::firstRightOne);
    Sentences.sentence("if not, it is BROKEN", TermsBoundaryTest::brokenThenRight);
  }

  private static void due(String what, long got, long want) {
    Sentences.due(what, got, want);
  }

  private static void due(String what, boolean got, boolean want) {
    Sentences.due(what, got, want);
  }

  private static void dueSubsets(Counted x, int channel, int... vsAndWs) {
    int subsets = vsAndWs.length / 2;
    due("subsets of the header", x.period(channel, 1, 1), subsets);
    for (int n = 0; n < subsets; n++) {
      due("v of subset " + n, x.subset(channel, n, false), vsAndWs[2 * n]);
      due("w of subset " + n, x.subset(channel, n, true), vsAndWs[2 * n + 1]);
    }
    due("one more throws", Sentences.thrownBy(x, y -> y.subset(channel, subsets, false)) == Sentences.INDEX, true);
  }

  private static void lastCall() {
    Counted x = new Counted();
    for (int call = 1; call <= 511; call++) x.period(0, call, call);
    due("count(4) as the 512th call", x.count(4), 511);
    Counted y = new Counted();
    for (int call = 1; call <= 510; call++) due("a call that throws", Sentences.thrownBy(y, z -> z.hear(16)) != null, true);
    due("install as the 511th call", y.install(15), 10);
    due("count(1) as the 512th call", y.count(1), 1);
  }

  private static void bytes() {
    Counted x = Sentences.withSubsets(8, 0);
    int bytes = x.packet(0, 0);
    for (int i = 0; i < bytes; i++) {
      int b = x.air(i);
      due("byte " + i + " from 0 to 255", b >= 0 && b <= 255, true);
    }
    Sentences.set(x, 228, 255);
    due("the greatest byte", x.air(228), 255);
    x.flip(228, 127);
    due("its highest bit alone", x.air(228), 128);
    x.flip(228, 128);
    due("the least byte", x.air(228), 0);
  }

  /** Of blocks with bytes from 128 on, twice a byte goes beyond eight bits. */
  private static void productsThatGoRound() {
    due("the product of 2 and 128", DocCipher.product(2, 128), 0x1B);
    due("the product of 255 and 255", DocCipher.product(255, 255), 0x13);
    Counted x = new Counted();
    x.period(0, ALL_ONES, ALL_ONES);
    for (int bit = 0; bit < 64; bit++) dueSealed(x, ALL_ONES, ALL_ONES, 1L << bit);
  }

  private static void dueSealed(Counted x, long keyHigh, long keyLow, long i) {
    x.seal(0, i, 0, 0);
    int[] with = DocCipher.encrypt(DocCipher.block(keyHigh, keyLow), DocCipher.block(1, i));
    due("first half of block " + i, x.out(false), DocCipher.half(with, false));
    due("second half of block " + i, x.out(true), DocCipher.half(with, true));
  }

  /** Under the key 0 the first round takes the SUB of the block's own bytes. */
  private static void subOfEachByte() {
    due("the SUB of 0 by the words", DocCipher.sub(0), 0x63);
    due("the SUB of 1 by the words", DocCipher.sub(1), 0x7C);
    for (int from = 0; from < 256; from += 128) {
      Counted x = new Counted();
      x.period(0, 0, 0);
      for (int b = from; b < from + 128; b++) dueSealed(x, 0, 0, b * 0x0101010101010101L);
    }
  }

  /** A key's round keys are all that its block 0 depends on; the constants for the last two multiples go round. */
  private static void roundKeys() {
    long[][] seeds = {{0, 0}, {ALL_ONES, ALL_ONES}, {0, 1}, {1L << 63, 0}, {0x0123456789ABCDEFL, 0xFEDCBA9876543210L}};
    for (long[] seed : seeds) {
      Counted x = Sentences.tree(1, seed[0], seed[1]);
      int[] block = DocCipher.encrypt(DocCipher.block(seed[0], seed[1]), DocCipher.block(0, 0));
      due("first half", x.key(0, 0, false), DocCipher.half(block, false));
      due("second half", x.key(0, 0, true), DocCipher.half(block, true));
    }
  }

  private static void eachPlace() {
    Counted x = new Counted();
    x.period(0, 0, 0);
    for (int b = 0; b < 8; b++) dueSealed(x, 0, 0, 0x9DL << 8 * b);
  }

  /** Blocks that NIST gives for the plain block 0 (the lists of variable keys). */
  private static void publishedBlocks() {
    long[][] blocks = {
      {0, 0, 0x66e94bd4ef8a2c3bL, 0x884cfa59ca342b2eL},
      {1L << 63, 0, 0x0edd33d3c621e546L, 0x455bd8ba1418bec8L},
      {3L << 62, 0, 0x4bc3f883450c113cL, 0x64ca42e1112a9e87L},
      {ALL_ONES, ALL_ONES, 0xa1f6258c877d5fcdL, 0x8964484538bfc92cL},
    };
    for (long[] b : blocks) {
      Counted x = Sentences.tree(8, b[0], b[1]);
      due("first half", x.key(0, 0, false), b[2]);
      due("second half", x.key(0, 0, true), b[3]);
    }
  }

  private static void undone() {
    Counted x = Sentences.tree(1, ALL_ONES, 0);
    x.install(0);
    Sentences.subscribeAll(x, 2);
    for (int p = 1; p <= 60; p++) {
      x.period(2, p * 0x9E3779B97F4A7C15L, ~p);
      x.packet(2, 0);
      due("heard", x.hear(0), 1);
      x.open(0, 2, p, 0, 0);
      due("with that key, first half", x.out(false), Sentences.mask(p * 0x9E3779B97F4A7C15L, ~p, 131072 + p, p, false));
      due("with that key, second half", x.out(true), Sentences.mask(p * 0x9E3779B97F4A7C15L, ~p, 131072 + p, p, true));
    }
  }

  private static void wrappedKeys() {
    long[][] keys = {{0, 0}, {ALL_ONES, ALL_ONES}, {ALL_ONES, 0}, {0, ALL_ONES}, {1, 2}, {1L << 63, 1L << 63}};
    for (long[] key : keys) {
      Counted x = Sentences.tree(2, 5, 6);
      Sentences.subscribeAll(x, 0);
      x.period(0, key[0], key[1]);
      x.packet(0, 0);
      byte[] wrapped = Model.wrapped(Sentences.subsetKey(5, 6, 0, 0), Model.bytes(key[0], key[1]));
      for (int b = 0; b < 24; b++) due("wrapped byte " + b, x.air(9 + b), wrapped[b] & 255);
    }
  }

  private static void eachBitSpoilt() {
    for (int bit = 0; bit < 8; bit++) {
      Counted x = Sentences.small();
      for (int b = 9; b < 33; b++) {
        x.flip(b, 1 << bit);
        due("bit " + bit + " of byte " + b + " spoilt", x.hear(1), -1);
        x.flip(b, 1 << bit);
        due("mended", x.hear(1), 1);
      }
    }
  }

  private static void depths() {
    for (int depth = 1; depth <= 8; depth++) {
      due("the depth", Sentences.tree(depth, 0, 0).count(0), depth);
    }
    Sentences.refused("depth 0", Sentences.ARGUMENT, Sentences::busy, x -> x.begin(0, 1, 1));
    Sentences.refused("depth 9", Sentences.ARGUMENT, Sentences::busy, x -> x.begin(9, 1, 1));
  }

  private static void nodes() {
    for (int depth = 1; depth <= 8; depth++) {
      int last = (1 << depth + 1) - 1;
      Counted x = Sentences.tree(depth, 7, depth);
      due("the key of (1, the last node)", x.key(1, last, true), Model.half(Sentences.subsetKey(7, depth, 1, last), true));
      due("(the last node's parent, the last node)", x.key(last / 2, last, true),
          Model.half(Sentences.subsetKey(7, depth, last / 2, last), true));
      due("(1, behind the last) throws", Sentences.thrownBy(x, y -> y.key(1, last + 1, true)) == Sentences.ARGUMENT, true);
      due("(a leaf, below it) throws",
          Sentences.thrownBy(x, y -> y.key(1 << y.count(0), 2 << y.count(0), true)) == Sentences.ARGUMENT, true);
      due("(0, 1) throws", Sentences.thrownBy(x, y -> y.key(0, 1, true)) == Sentences.ARGUMENT, true);
    }
  }

  private static void leaves() {
    for (int depth = 1; depth <= 8; depth++) {
      int decoders = 1 << depth;
      for (int d : new int[] {0, decoders - 1}) {
        Counted x = Sentences.tree(depth, 1, 1);
        due("a decoder", x.install(d), depth * (depth + 1) / 2);
        Sentences.subscribeAll(x, 0);
        x.subscribe(d, 0, false);
        dueSubsets(x, 0, 1, decoders + d);
      }
      Counted y = Sentences.tree(depth, 1, 1);
      due("one less throws", Sentences.thrownBy(y, z -> z.install(-1)) == Sentences.INDEX, true);
      due("one more throws", Sentences.thrownBy(y, z -> z.install(decoders)) == Sentences.INDEX, true);
    }
  }

  private static void firstLabels() {
    Counted x = Sentences.tree(8, 0x1111, 0x2222);
    for (int v : new int[] {1, 2, 3, 127, 128, 255}) {
      byte[] first = Model.aes(true, Model.bytes(0x1111, 0x2222), Model.bytes(0, v));
      byte[] left = Model.aes(true, first, Model.bytes(0, 1));
      due("the key of (" + v + ", its left child)", x.key(v, 2 * v, false),
          Model.half(Model.aes(true, left, Model.bytes(0, 3)), false));
    }
  }

  private static void labelsBelow() {
    Counted x = Sentences.tree(8, 0x3333, 0x4444);
    for (int w : new int[] {2, 3, 256, 257, 384, 510, 511}) {
      due("first half of (1, " + w + ")", x.key(1, w, false), Model.half(Sentences.subsetKey(0x3333, 0x4444, 1, w), false));
      due("second half of (1, " + w + ")", x.key(1, w, true), Model.half(Sentences.subsetKey(0x3333, 0x4444, 1, w), true));
    }
  }

  /** Which leaves a subset has shows in who is broken by a packet that names it, with a key that is none of its own. */
  private static void leavesOfSubsets() {
    for (int v = 0; v <= 16; v++) {
      for (int w = 0; w <= 16; w++) {
        Counted x = spoiltForAll();
        Sentences.setSubset(x, 5, v, w);
        for (int d = 0; d < 8; d++) {
          due("(" + v + ", " + w + ") to " + d, x.hear(d), isIn(8 + d, v, w) ? -1 : 0);
        }
      }
    }
  }

  private static Counted spoiltForAll() {
    Counted x = Sentences.tree(3, 1, 2);
    for (int d = 0; d < 8; d++) x.install(d);
    Sentences.subscribeAll(x, 0);
    x.period(0, 3, 4);
    x.packet(0, 0);
    x.flip(9, 1);
    return x;
  }

  private static List<Integer> atOrAbove(int node) {
    List<Integer> all = new ArrayList<>();
    for (int n = node; n > 0; n /= 2) all.add(n);
    return all;
  }

  private static boolean isIn(int leaf, int v, int w) {
    if (v == 0 && w == 0) return true;
    boolean isSubset = v >= 1 && w <= 15 && w != v && atOrAbove(w).contains(v);
    return isSubset && atOrAbove(leaf).contains(v) && !atOrAbove(leaf).contains(w);
  }

  private static void subsetOfAll() {
    for (int depth = 1; depth <= 8; depth++) {
      Counted x = Sentences.tree(depth, 0x5555, depth);
      due("its key", x.key(0, 0, false), Sentences.mask(0x5555, depth, 0, 0, false));
      int last = (1 << depth) - 1;
      x.install(0);
      x.install(last);
      Sentences.subscribeAll(x, 1);
      x.period(1, 1, 1);
      x.packet(1, 0);
      due("heard by the first", x.hear(0), 1);
      due("heard by the last", x.hear(last), 1);
    }
  }

  private static void storedLabels() {
    Counted least = Sentences.tree(1, 9, 9);
    least.install(1);
    dueLabels(least, 1, 9, 1, 2);
    Counted some = Sentences.tree(2, 9, 9);
    some.install(2);
    dueLabels(some, 2, 9, 1, 2, 1, 7, 3, 7);
    Counted deepest = Sentences.tree(8, 9, 9);
    deepest.install(255);
    int[] all = new int[72];
    int at = 0;
    for (int v = 1; v < 256; v = 2 * v + 1) {
      for (int w = 2 * v; w < 512; w = 2 * w + 2) {
        all[at++] = v;
        all[at++] = w;
      }
    }
    due("labels", at, 72);
    dueLabels(deepest, 255, 9, all);
  }

  private static void dueLabels(Counted x, int d, long seed, int... vsAndWs) {
    int labels = vsAndWs.length / 2;
    for (int k = 0; k < labels; k++) {
      int v = vsAndWs[2 * k];
      int w = vsAndWs[2 * k + 1];
      due("v of label " + k, x.label(d, k, 0), v);
      due("w of label " + k, x.label(d, k, 1), w);
      due("first half of label " + k, x.label(d, k, 2), Model.half(Sentences.label(seed, seed, v, w), false));
      due("second half of label " + k, x.label(d, k, 3), Model.half(Sentences.label(seed, seed, v, w), true));
    }
    due("one more throws", Sentences.thrownBy(x, y -> y.label(d, labels, 0)) == Sentences.ARGUMENT, true);
  }

  /** Decoder 0 of depth 8 has the label (1, 3): all below it can be derived, nothing above its own leaf. */
  private static void derivedAtAndBelow() {
    int[][] derived = {{1, 3}, {1, 6}, {1, 511}, {1, 257}, {128, 257}, {2, 5}, {2, 383}, {0, 0}};
    int[][] not = {{1, 2}, {1, 128}, {1, 256}, {128, 256}, {3, 6}, {255, 511}, {129, 258}};
    Counted x = Sentences.tree(8, 1, 2);
    x.install(0);
    Sentences.subscribe(x, 0, 1);
    x.period(0, 3, 4);
    x.packet(0, 0);
    x.flip(9, 1);
    for (int[] s : derived) {
      Sentences.setSubset(x, 5, s[0], s[1]);
      due("(" + s[0] + ", " + s[1] + ")", x.hear(0), -1);
    }
    for (int[] s : not) {
      Sentences.setSubset(x, 5, s[0], s[1]);
      due("(" + s[0] + ", " + s[1] + ")", x.hear(0), 0);
    }
  }

  private static void oneIsNone() {
    for (int d = 0; d < 8; d++) {
      Counted x = Sentences.tree(3, 1, 1);
      Sentences.subscribeAll(x, 0);
      x.subscribe(d, 0, false);
      dueSubsets(x, 0, 1, 8 + d);
      Counted y = Sentences.tree(3, 1, 1);
      Sentences.subscribe(y, 0, d);
      dueSubsets(y, 0, (8 + d) / 2, 8 + (d ^ 1));
    }
  }

  private static void noneMarked() {
    for (int depth = 1; depth <= 8; depth++) {
      Counted x = Sentences.tree(depth, 1, 1);
      Sentences.subscribeAll(x, 3);
      dueSubsets(x, 3, 0, 0);
    }
  }

  private static void rootMarked() {
    Counted least = Sentences.tree(1, 1, 1);
    Sentences.subscribe(least, 0, 0);
    dueSubsets(least, 0, 1, 3);
    Counted other = Sentences.tree(1, 1, 1);
    Sentences.subscribe(other, 0, 1);
    dueSubsets(other, 0, 1, 2);
    Counted half = Sentences.tree(8, 1, 1);
    for (int d = 0; d < 128; d++) half.subscribe(d, 0, true);
    dueSubsets(half, 0, 1, 3);
  }

  private static void twoMarkedChildren() {
    Counted x = Sentences.tree(3, 1, 1);
    Sentences.subscribe(x, 0, 0, 1, 2, 5, 6, 7);
    dueSubsets(x, 0, 2, 11, 3, 12);
    Counted leaves = Sentences.tree(3, 1, 1);
    Sentences.subscribe(leaves, 0, 0, 2, 4, 6);
    dueSubsets(leaves, 0, 4, 9, 5, 11, 6, 13, 7, 15);
  }

  private static void goesDown() {
    Counted atOnce = Sentences.tree(3, 1, 1);
    Sentences.subscribe(atOnce, 0, 4, 5, 6, 7);
    dueSubsets(atOnce, 0, 1, 2);
    Counted halfWay = Sentences.tree(3, 1, 1);
    Sentences.subscribe(halfWay, 0, 2, 3, 4, 5, 6, 7);
    dueSubsets(halfWay, 0, 1, 4);
    Counted forked = Sentences.tree(3, 1, 1);
    Sentences.subscribe(forked, 0, 0, 2, 4, 5, 6, 7);
    dueSubsets(forked, 0, 1, 2, 4, 9, 5, 11);
    for (int d : new int[] {0, 85, 170, 255}) {
      Counted deepest = Sentences.tree(8, 1, 1);
      Sentences.subscribeAll(deepest, 0);
      deepest.subscribe(d, 0, false);
      dueSubsets(deepest, 0, 1, 256 + d);
    }
    Counted almost = Sentences.tree(8, 1, 1);
    Sentences.subscribeAll(almost, 0);
    almost.subscribe(84, 0, false);
    almost.subscribe(85, 0, false);
    dueSubsets(almost, 0, 1, 170);
  }

  private static void noOtherNode() {
    for (int depth = 1; depth <= 8; depth++) {
      Counted x = Sentences.tree(depth, 1, 1);
      dueSubsets(x, 0);
    }
    Counted leaves = Sentences.tree(3, 1, 1);
    Sentences.subscribe(leaves, 0, 0, 1);
    dueSubsets(leaves, 0, 2, 5);
  }

  /** The subset of the right half stands before that of the left one, which is deeper. */
  private static void subsetsByV() {
    Counted x = Sentences.tree(3, 1, 1);
    Sentences.subscribe(x, 0, 0, 5, 6, 7);
    dueSubsets(x, 0, 3, 12, 4, 9);
    Counted y = Sentences.tree(4, 1, 1);
    Sentences.subscribe(y, 0, 0, 1, 2, 3, 4, 6, 7, 8, 14);
    dueSubsets(y, 0, 2, 21, 12, 25, 15, 31);
    Counted all = Sentences.withSubsets(128, 1);
    for (int n = 0; n < 128; n++) due("v of " + n, all.subset(1, n, false), 128 + n);
  }

  private static void fourChannels() {
    for (int c = 0; c < 4; c++) {
      Counted x = Sentences.tree(2, 1, 1);
      x.subscribe(1, c, true);
      due("a period", x.period(c, 5, 5), 1);
      for (int other = 0; other < 4; other++) due("periods", x.count(4 + other), other == c ? 1 : 0);
      due("bytes", x.packet(c, 0), 33);
      due("the channel's byte", x.air(0), c);
      x.install(1);
      due("heard", x.hear(1), 1);
      for (int other = 0; other < 4; other++) due("has", x.has(1, other), other == c ? 1 : -1);
    }
    for (int none : Sentences.NO_CHANNELS) {
      Sentences.refused("channel " + none, Sentences.INDEX, Sentences::busy, x -> x.period(none, 1, 1));
    }
  }

  private static void notInstalled() {
    Counted x = Sentences.tree(3, 1, 1);
    due("it becomes a subscriber", x.subscribe(6, 2, true), true);
    due("counted", x.count(2), 1);
    due("not installed", x.count(1), 0);
    dueSubsets(x, 2, 7, 15);
    x.packet(2, 0);
    x.install(6);
    due("it hears once it is installed", x.hear(6), 1);
  }

  private static void periods() {
    Counted x = new Counted();
    for (int p = 1; p <= 257; p++) {
      x.period(1, p, p);
      if (p == 1 || p >= 255) {
        x.packet(1, 0);
        due("first byte of period " + p, x.air(1), p / 256);
        due("second byte of period " + p, x.air(2), p % 256);
      }
    }
    due("periods", x.count(5), 257);
    // No object is used for 999 calls; the number is named all the same, so it is tried on one that is not counted.
    CoverKeys old = new CoverKeys();
    for (int p = 1; p <= 999; p++) old.period(2, p, p);
    due("the last period", old.count(6), 999);
    old.packet(2, 0);
    due("its bytes", 256 * old.air(1) + old.air(2), 999);
  }

  private static void whenItBegan() {
    Counted x = Sentences.tree(3, 1, 2);
    x.install(0);
    x.install(7);
    Sentences.subscribe(x, 0, 0);
    x.period(0, 3, 4);
    x.subscribe(0, 0, false);
    x.subscribe(7, 0, true);
    due("v", x.subset(0, 0, false), 4);
    due("w", x.subset(0, 0, true), 9);
    due("reach of the one that was", x.reach(0, 0), 1);
    due("reach of the one that was not", x.reach(7, 0), 0);
    due("bytes", x.packet(0, 0), 33);
    due("the one that was", x.hear(0), 1);
    due("the one that was not", x.hear(7), 0);
    dueSubsets(x, 0, 7, 14);
  }

  private static void upToEight() {
    int[][] subsetsAndPackets = {{1, 1}, {7, 1}, {8, 1}, {9, 2}, {15, 2}, {16, 2}, {17, 3}, {127, 16}, {128, 16}};
    for (int[] s : subsetsAndPackets) {
      Counted x = Sentences.withSubsets(s[0], 2);
      int left = s[0];
      for (int n = 0; n < s[1]; n++) {
        due("bytes of packet " + n + " for " + s[0], x.packet(2, n), 5 + 28 * Math.min(8, left));
        due("its number", x.air(3), n);
        due("of packets", x.air(4), s[1]);
        due("its first w", 256 * x.air(7) + x.air(8), x.subset(2, 8 * n, true));
        left -= 8;
      }
      due("one more throws", Sentences.thrownBy(x, y -> y.packet(2, s[1])) == Sentences.ARGUMENT, true);
    }
  }

  private static void withoutAny() {
    Counted x = Sentences.tree(3, 1, 1);
    x.install(0);
    due("subsets", x.period(3, 1, 1), 0);
    due("bytes", x.packet(3, 0), 5);
    int[] head = {3, 0, 1, 0, 1};
    for (int i = 0; i < 5; i++) due("byte " + i, x.air(i), head[i]);
    due("nothing in it", x.hear(0), 0);
    due("no second one", Sentences.thrownBy(x, y -> y.packet(3, 1)) == Sentences.ARGUMENT, true);
  }

  private static void headBytes() {
    Counted x = Sentences.withSubsets(17, 3);
    for (int p = 2; p <= 258; p++) x.period(3, p, p);
    due("the third packet", x.packet(3, 2), 33);
    int[] head = {3, 1, 2, 2, 3};
    for (int i = 0; i < 5; i++) due("byte " + i, x.air(i), head[i]);
  }

  private static void entryBytes() {
    Counted x = Sentences.tree(8, 1, 2);
    Sentences.subscribe(x, 0, 254);
    x.period(0, 0x0102030405060708L, 0xF1F2F3F4F5F6F7F8L);
    due("bytes", x.packet(0, 0), 33);
    int[] vAndW = {0, 255, 1, 255};
    for (int i = 0; i < 4; i++) due("byte " + (5 + i), x.air(5 + i), vAndW[i]);
    byte[] wrapped = Model.wrapped(Sentences.subsetKey(1, 2, 255, 511), Model.bytes(0x0102030405060708L, 0xF1F2F3F4F5F6F7F8L));
    for (int b = 0; b < 24; b++) due("wrapped byte " + b, x.air(9 + b), wrapped[b] & 255);
  }

  private static void oneOrNone() {
    Counted x = Sentences.tree(3, 1, 1);
    due("none", x.count(3), 0);
    x.period(0, 1, 1);
    due("none when a period begins", x.count(3), 0);
    Sentences.subscribe(x, 1, 0, 4);
    x.period(1, 1, 1);
    due("one", x.packet(1, 0), 61);
    due("its bytes", x.count(3), 61);
    due("another in its place", x.packet(0, 0), 5);
    due("its bytes alone", x.count(3), 5);
    due("nothing behind it", Sentences.thrownBy(x, y -> y.air(5)) == Sentences.INDEX, true);
    x.begin(3, 1, 1);
    due("none again", x.count(3), 0);
  }

  private static void largestNumbers() {
    Counted x = Sentences.small();
    Sentences.set(x, 0, 3);
    Sentences.set(x, 1, 255);
    Sentences.set(x, 2, 255);
    due("heard", x.hear(1), 1);
    for (long i : new long[] {0, 1, -1, 1L << 32, Long.MAX_VALUE, Long.MIN_VALUE}) {
      x.open(1, 3, i, 0, 0);
      due("first half of block " + i, x.out(false), Sentences.mask(5, 6, 3 * 65536 + 65535, i, false));
      due("second half of block " + i, x.out(true), Sentences.mask(5, 6, 3 * 65536 + 65535, i, true));
      x.seal(0, i, ALL_ONES, Long.MIN_VALUE);
      due("sealed, first half", x.out(false), ~Sentences.mask(5, 6, 1, i, false));
      due("sealed, second half", x.out(true), Long.MIN_VALUE ^ Sentences.mask(5, 6, 1, i, true));
    }
  }

  private static void otherChannels() {
    for (int other : new int[] {4, 5, 7, 8, 16, 127, 128, 252, 255}) {
      Counted x = Sentences.small();
      Sentences.set(x, 0, other);
      due("right, but of channel " + other, x.hear(1), 0);
      x.flip(9, 1);
      due("broken, but of channel " + other, x.hear(1), 0);
      due("it has what it had", x.has(1, 0), 1);
      for (int c = 1; c < 4; c++) due("and nothing else", x.has(1, c), -1);
    }
    Counted y = Sentences.small();
    Sentences.set(y, 0, 3);
    due("of the last channel", y.hear(1), 1);
    due("has", y.has(1, 3), 1);
  }

  private static void otherTrees() {
    int[][] none = {
      {0, 1}, {1, 0}, {1, 1}, {2, 2}, {0, 15}, {15, 0}, {1, 16}, {1, 31}, {7, 3}, {16, 32}, {256, 0}, {0, 256},
      {257, 3}, {1, 259}, {65535, 65535}, {32768, 65535}, {0, 65535}, {1, 32768}, {1, 65535}
    };
    Counted x = spoiltForAll();
    for (int[] s : none) {
      Sentences.setSubset(x, 5, s[0], s[1]);
      for (int d : new int[] {0, 7}) due("(" + s[0] + ", " + s[1] + ") to " + d, x.hear(d), 0);
    }
    int[][] noneOfTheDeepest = {{1, 512}, {1, 1023}, {256, 512}, {511, 1023}, {1, 0}, {0, 1}, {128, 0}, {255, 0}, {1, 1}, {0, 511}};
    Counted deepest = Sentences.tree(8, 1, 2);
    deepest.install(0);
    deepest.install(255);
    Sentences.subscribe(deepest, 0, 0);
    deepest.period(0, 1, 1);
    deepest.packet(0, 0);
    deepest.flip(9, 1);
    Sentences.setSubset(deepest, 5, 1, 511);
    due("(1, 511) of depth 8", deepest.hear(0), -1);
    for (int[] s : noneOfTheDeepest) {
      Sentences.setSubset(deepest, 5, s[0], s[1]);
      for (int d : new int[] {0, 255}) due("(" + s[0] + ", " + s[1] + ") of depth 8 to " + d, deepest.hear(d), 0);
    }
  }

  /** A packet that is right for others is neither right nor broken to one outside its subset. */
  private static void notDerived() {
    Counted x = Sentences.tree(3, 1, 2);
    x.install(2);
    x.install(3);
    Sentences.subscribeAll(x, 0);
    x.subscribe(3, 0, false);
    x.period(0, 3, 4);
    x.packet(0, 0);
    due("the one left out", x.hear(3), 0);
    due("it has nothing", x.has(3, 0), -1);
    x.flip(9, 1);
    due("the one left out, spoilt", x.hear(3), 0);
    due("its neighbour, spoilt", x.hear(2), -1);
  }

  private static void periodOfThePacket() {
    for (int p : new int[] {0, 1, 255, 256, 999, 1000, 32768, 65535}) {
      Counted x = Sentences.small();
      Sentences.set(x, 1, p >> 8);
      Sentences.set(x, 2, p);
      due("heard", x.hear(1), 1);
      due("the period", x.has(1, 0), p);
      x.open(1, 0, 9, 0, 0);
      due("the block of that period", x.out(false), Sentences.mask(5, 6, p, 9, false));
    }
  }

  private static void olderInPlaceOfNewer() {
    Counted x = Sentences.small();
    x.period(0, 7, 8);
    x.period(0, 9, 10);
    x.packet(0, 0);
    x.hear(1);
    due("the newer", x.has(1, 0), 3);
    Sentences.set(x, 2, 2);
    due("heard again", x.hear(1), 1);
    due("the older", x.has(1, 0), 2);
    x.open(1, 0, 1, 0, 0);
    due("with the key of the packet", x.out(true), Sentences.mask(9, 10, 2, 1, true));
  }

  /** Two entries for one decoder, made of two packets: which of the two keys it has then shows in what it opens. */
  private static Counted twoKeysForOne(boolean firstIsSpoilt, boolean secondIsSpoilt) {
    Counted x = Sentences.tree(3, 1, 2);
    x.install(0);
    Sentences.subscribeAll(x, 1);
    x.period(1, 21, 22);
    x.packet(1, 0);
    int[] entry = new int[28];
    for (int b = 0; b < 28; b++) entry[b] = x.air(5 + b);
    Sentences.subscribe(x, 0, 0, 4);
    x.period(0, 3, 4);
    due("bytes", x.packet(0, 0), 61);
    for (int b = 0; b < 28; b++) Sentences.set(x, 33 + b, entry[b]);
    if (firstIsSpoilt) x.flip(32, 1);
    if (secondIsSpoilt) x.flip(60, 1);
    return x;
  }

  private static void firstRightOne() {
    Counted x = twoKeysForOne(false, false);
    due("two right ones", x.hear(0), 1);
    x.open(0, 0, 5, 0, 0);
    due("the first one's key", x.out(false), Sentences.mask(3, 4, 1, 5, false));
    Counted y = twoKeysForOne(false, true);
    due("right, then broken", y.hear(0), 1);
    y.open(0, 0, 5, 0, 0);
    due("the first one's key", y.out(false), Sentences.mask(3, 4, 1, 5, false));
  }

  private static void brokenThenRight() {
    Counted x = twoKeysForOne(true, false);
    due("broken, then right", x.hear(0), 1);
    x.open(0, 0, 5, 0, 0);
    due("the second one's key", x.out(false), Sentences.mask(21, 22, 1, 5, false));
    Counted y = twoKeysForOne(true, true);
    due("both broken", y.hear(0), -1);
    due("it has nothing", y.has(0, 0), -1);
  }
}
