/**
 * Keys of a broadcast for just those who may watch: decoders at the leaves of a tree, covers of the
 * subscribers by subsets of the leaves, and packets that carry a period's key under the subsets' keys.
 */
public final class CoverKeys {
  public static final int NONE = -1;

  private static final int DEEPEST = 8;
  private static final int MOST_DECODERS = 1 << DEEPEST;
  private static final int CHANNELS = 4;
  private static final int MOST_PERIODS = 999;
  // A cover has one subset for two leaves at most: a node with two marked children begins none, and from
  // any other the way down leaves out half of the leaves at least.
  private static final int MOST_SUBSETS = MOST_DECODERS / 2;

  private static final int HEAD_BYTES = 5;
  private static final int ENTRY_BYTES = 28;
  private static final int ENTRIES = 8;
  private static final int CHANNEL_AT = 0;
  private static final int PERIOD_AT = 1;

  // SUB and its inverse stand here written out: a table for each object would cost the room too much.
  private static final int[] SUB = {
    0x63, 0x7c, 0x77, 0x7b, 0xf2, 0x6b, 0x6f, 0xc5, 0x30, 0x01, 0x67, 0x2b, 0xfe, 0xd7, 0xab, 0x76,
    0xca, 0x82, 0xc9, 0x7d, 0xfa, 0x59, 0x47, 0xf0, 0xad, 0xd4, 0xa2, 0xaf, 0x9c, 0xa4, 0x72, 0xc0,
    0xb7, 0xfd, 0x93, 0x26, 0x36, 0x3f, 0xf7, 0xcc, 0x34, 0xa5, 0xe5, 0xf1, 0x71, 0xd8, 0x31, 0x15,
    0x04, 0xc7, 0x23, 0xc3, 0x18, 0x96, 0x05, 0x9a, 0x07, 0x12, 0x80, 0xe2, 0xeb, 0x27, 0xb2, 0x75,
    0x09, 0x83, 0x2c, 0x1a, 0x1b, 0x6e, 0x5a, 0xa0, 0x52, 0x3b, 0xd6, 0xb3, 0x29, 0xe3, 0x2f, 0x84,
    0x53, 0xd1, 0x00, 0xed, 0x20, 0xfc, 0xb1, 0x5b, 0x6a, 0xcb, 0xbe, 0x39, 0x4a, 0x4c, 0x58, 0xcf,
    0xd0, 0xef, 0xaa, 0xfb, 0x43, 0x4d, 0x33, 0x85, 0x45, 0xf9, 0x02, 0x7f, 0x50, 0x3c, 0x9f, 0xa8,
    0x51, 0xa3, 0x40, 0x8f, 0x92, 0x9d, 0x38, 0xf5, 0xbc, 0xb6, 0xda, 0x21, 0x10, 0xff, 0xf3, 0xd2,
    0xcd, 0x0c, 0x13, 0xec, 0x5f, 0x97, 0x44, 0x17, 0xc4, 0xa7, 0x7e, 0x3d, 0x64, 0x5d, 0x19, 0x73,
    0x60, 0x81, 0x4f, 0xdc, 0x22, 0x2a, 0x90, 0x88, 0x46, 0xee, 0xb8, 0x14, 0xde, 0x5e, 0x0b, 0xdb,
    0xe0, 0x32, 0x3a, 0x0a, 0x49, 0x06, 0x24, 0x5c, 0xc2, 0xd3, 0xac, 0x62, 0x91, 0x95, 0xe4, 0x79,
    0xe7, 0xc8, 0x37, 0x6d, 0x8d, 0xd5, 0x4e, 0xa9, 0x6c, 0x56, 0xf4, 0xea, 0x65, 0x7a, 0xae, 0x08,
    0xba, 0x78, 0x25, 0x2e, 0x1c, 0xa6, 0xb4, 0xc6, 0xe8, 0xdd, 0x74, 0x1f, 0x4b, 0xbd, 0x8b, 0x8a,
    0x70, 0x3e, 0xb5, 0x66, 0x48, 0x03, 0xf6, 0x0e, 0x61, 0x35, 0x57, 0xb9, 0x86, 0xc1, 0x1d, 0x9e,
    0xe1, 0xf8, 0x98, 0x11, 0x69, 0xd9, 0x8e, 0x94, 0x9b, 0x1e, 0x87, 0xe9, 0xce, 0x55, 0x28, 0xdf,
    0x8c, 0xa1, 0x89, 0x0d, 0xbf, 0xe6, 0x42, 0x68, 0x41, 0x99, 0x2d, 0x0f, 0xb0, 0x54, 0xbb, 0x16
  };
  private static final int[] UNSUB = {
    0x52, 0x09, 0x6a, 0xd5, 0x30, 0x36, 0xa5, 0x38, 0xbf, 0x40, 0xa3, 0x9e, 0x81, 0xf3, 0xd7, 0xfb,
    0x7c, 0xe3, 0x39, 0x82, 0x9b, 0x2f, 0xff, 0x87, 0x34, 0x8e, 0x43, 0x44, 0xc4, 0xde, 0xe9, 0xcb,
    0x54, 0x7b, 0x94, 0x32, 0xa6, 0xc2, 0x23, 0x3d, 0xee, 0x4c, 0x95, 0x0b, 0x42, 0xfa, 0xc3, 0x4e,
    0x08, 0x2e, 0xa1, 0x66, 0x28, 0xd9, 0x24, 0xb2, 0x76, 0x5b, 0xa2, 0x49, 0x6d, 0x8b, 0xd1, 0x25,
    0x72, 0xf8, 0xf6, 0x64, 0x86, 0x68, 0x98, 0x16, 0xd4, 0xa4, 0x5c, 0xcc, 0x5d, 0x65, 0xb6, 0x92,
    0x6c, 0x70, 0x48, 0x50, 0xfd, 0xed, 0xb9, 0xda, 0x5e, 0x15, 0x46, 0x57, 0xa7, 0x8d, 0x9d, 0x84,
    0x90, 0xd8, 0xab, 0x00, 0x8c, 0xbc, 0xd3, 0x0a, 0xf7, 0xe4, 0x58, 0x05, 0xb8, 0xb3, 0x45, 0x06,
    0xd0, 0x2c, 0x1e, 0x8f, 0xca, 0x3f, 0x0f, 0x02, 0xc1, 0xaf, 0xbd, 0x03, 0x01, 0x13, 0x8a, 0x6b,
    0x3a, 0x91, 0x11, 0x41, 0x4f, 0x67, 0xdc, 0xea, 0x97, 0xf2, 0xcf, 0xce, 0xf0, 0xb4, 0xe6, 0x73,
    0x96, 0xac, 0x74, 0x22, 0xe7, 0xad, 0x35, 0x85, 0xe2, 0xf9, 0x37, 0xe8, 0x1c, 0x75, 0xdf, 0x6e,
    0x47, 0xf1, 0x1a, 0x71, 0x1d, 0x29, 0xc5, 0x89, 0x6f, 0xb7, 0x62, 0x0e, 0xaa, 0x18, 0xbe, 0x1b,
    0xfc, 0x56, 0x3e, 0x4b, 0xc6, 0xd2, 0x79, 0x20, 0x9a, 0xdb, 0xc0, 0xfe, 0x78, 0xcd, 0x5a, 0xf4,
    0x1f, 0xdd, 0xa8, 0x33, 0x88, 0x07, 0xc7, 0x31, 0xb1, 0x12, 0x10, 0x59, 0x27, 0x80, 0xec, 0x5f,
    0x60, 0x51, 0x7f, 0xa9, 0x19, 0xb5, 0x4a, 0x0d, 0x2d, 0xe5, 0x7a, 0x9f, 0x93, 0xc9, 0x9c, 0xef,
    0xa0, 0xe0, 0x3b, 0x4d, 0xae, 0x2a, 0xf5, 0xb0, 0xc8, 0xeb, 0xbb, 0x3c, 0x83, 0x53, 0x99, 0x61,
    0x17, 0x2b, 0x04, 0x7e, 0xba, 0x77, 0xd6, 0x26, 0xe1, 0x69, 0x14, 0x63, 0x55, 0x21, 0x0c, 0x7d
  };

  private final Cipher cipher = new Cipher();
  private final Tree tree = new Tree();
  private final Cover cover = new Cover();
  private final Envelope envelope = new Envelope();
  private final Packet onAir = new Packet();
  private final Channel[] channels = new Channel[CHANNELS];
  private final Decoder[] decoders = new Decoder[MOST_DECODERS];
  private long outHigh;
  private long outLow;

  public CoverKeys() {
    for (int c = 0; c < CHANNELS; c++) {
      channels[c] = new Channel();
    }
    tree.plant(4, 0, 0);
  }

  public void begin(int depth, long high, long low) throws IllegalArgumentException {
    if (depth < 1 || depth > DEEPEST) {
      throw new IllegalArgumentException("no such depth");
    }
    tree.plant(depth, high, low);
    onAir.clear();
    for (int c = 0; c < CHANNELS; c++) {
      channels[c].clear();
    }
    for (int d = 0; d < MOST_DECODERS; d++) {
      decoders[d] = null;
    }
  }

  public int install(int d) throws IndexOutOfBoundsException, IllegalStateException {
    checkDecoder(d);
    if (decoders[d] != null) {
      throw new IllegalStateException("installed already");
    }
    decoders[d] = new Decoder();
    return tree.labelsEach();
  }

  public boolean subscribe(int d, int channel, boolean is) throws IndexOutOfBoundsException {
    checkDecoder(d);
    checkChannel(channel);
    boolean[] subscribers = channels[channel].subscribers;
    boolean changes = subscribers[d] != is;
    subscribers[d] = is;
    return changes;
  }

  public int period(int channel, long high, long low)
      throws IndexOutOfBoundsException, UnsupportedOperationException {
    checkChannel(channel);
    Channel c = channels[channel];
    if (c.periods >= MOST_PERIODS) {
      throw new UnsupportedOperationException("no more periods");
    }
    c.beginPeriod(high, low);
    cover.find(tree, c);
    return c.subsets;
  }

  public int packet(int channel, int n)
      throws IndexOutOfBoundsException, IllegalStateException, IllegalArgumentException {
    checkChannel(channel);
    checkBegan(channel);
    Channel c = channels[channel];
    if (n < 0 || n >= c.packets()) {
      throw new IllegalArgumentException("no such packet");
    }
    onAir.clear();
    onAir.put(channel, 1);
    onAir.put(c.periods, 2);
    onAir.put(n, 1);
    onAir.put(c.packets(), 1);
    int end = Math.min(c.subsets, (n + 1) * ENTRIES);
    for (int s = n * ENTRIES; s < end; s++) {
      putEntry(c, s);
    }
    return onAir.length;
  }

  public int air(int i) throws IndexOutOfBoundsException {
    checkByte(i);
    return onAir.bytes[i];
  }

  public void flip(int i, int mask) throws IndexOutOfBoundsException {
    checkByte(i);
    onAir.bytes[i] ^= mask & 255;
  }

  public int hear(int d) throws IndexOutOfBoundsException, IllegalStateException {
    checkDecoder(d);
    Decoder decoder = decoders[d];
    if (decoder == null || onAir.length == 0) {
      throw new IllegalStateException("not installed, or nothing is on the air");
    }
    int channel = (int) onAir.read(CHANNEL_AT, 1);
    if (channel >= CHANNELS) {
      return 0;
    }
    boolean broken = false;
    for (int at = HEAD_BYTES; at + ENTRY_BYTES <= onAir.length; at += ENTRY_BYTES) {
      int v = (int) onAir.read(at, 2);
      int w = (int) onAir.read(at + 2, 2);
      if (tree.derives(d, v, w)) {
        if (unwrapEntry(at, v, w)) {
          decoder.keep(channel, (int) onAir.read(PERIOD_AT, 2), envelope.high, envelope.low);
          return 1;
        }
        broken = true;
      }
    }
    return broken ? -1 : 0;
  }

  public int has(int d, int channel) throws IndexOutOfBoundsException {
    checkDecoder(d);
    checkChannel(channel);
    Decoder decoder = decoders[d];
    return decoder == null ? NONE : decoder.periods[channel];
  }

  public void seal(int channel, long i, long high, long low)
      throws IndexOutOfBoundsException, IllegalStateException {
    checkChannel(channel);
    checkBegan(channel);
    Channel c = channels[channel];
    cipher.setKey(c.high, c.low);
    maskBlock(channel, c.periods, i, high, low);
  }

  public void open(int d, int channel, long i, long high, long low)
      throws IndexOutOfBoundsException, IllegalStateException {
    checkDecoder(d);
    checkChannel(channel);
    Decoder decoder = decoders[d];
    if (decoder == null || decoder.periods[channel] == NONE) {
      throw new IllegalStateException("no key for that channel");
    }
    cipher.setKey(decoder.highs[channel], decoder.lows[channel]);
    maskBlock(channel, decoder.periods[channel], i, high, low);
  }

  public long out(boolean second) {
    return second ? outLow : outHigh;
  }

  public int subset(int channel, int n, boolean second)
      throws IllegalStateException, IndexOutOfBoundsException {
    if (!isChannel(channel)) {
      throw new IllegalStateException("no such channel, so no period of it");
    }
    checkBegan(channel);
    Channel c = channels[channel];
    if (n < 0 || n >= c.subsets) {
      throw new IndexOutOfBoundsException("no such subset");
    }
    return second ? c.ws[n] : c.vs[n];
  }

  public long label(int d, int k, int what)
      throws IndexOutOfBoundsException, IllegalStateException, IllegalArgumentException {
    checkDecoder(d);
    checkInstalled(d);
    if (what < 0 || what > 3 || k < 0 || k >= tree.labelsEach()) {
      throw new IllegalArgumentException("no such label, or nothing of the kind about it");
    }
    int v = tree.labelTop(d, k);
    int w = tree.labelFoot(d, k);
    if (what < 2) {
      return what == 0 ? v : w;
    }
    tree.findLabel(cipher, v, w);
    return what == 2 ? cipher.high : cipher.low;
  }

  public int reach(int d, int channel) throws IndexOutOfBoundsException, IllegalStateException {
    checkDecoder(d);
    checkChannel(channel);
    checkBegan(channel);
    checkInstalled(d);
    Channel c = channels[channel];
    int reached = 0;
    for (int s = 0; s < c.subsets; s++) {
      if (tree.derives(d, c.vs[s], c.ws[s])) {
        reached++;
      }
    }
    return reached;
  }

  public long key(int v, int w, boolean second) throws IllegalArgumentException {
    if (!tree.isSubset(v, w)) {
      throw new IllegalArgumentException("no subset of this tree");
    }
    tree.findKey(cipher, v, w);
    return second ? cipher.low : cipher.high;
  }

  public int count(int what) throws IllegalArgumentException {
    if (what < 0 || what >= 4 + CHANNELS) {
      throw new IllegalArgumentException("nothing of the kind is counted");
    }
    switch (what) {
      case 0:
        return tree.depth;
      case 1:
        return installedDecoders();
      case 2:
        return subscribersOfAll();
      case 3:
        return onAir.length;
      default:
        return channels[what - 4].periods;
    }
  }

  private static boolean isChannel(int channel) {
    return channel >= 0 && channel < CHANNELS;
  }

  private static void checkChannel(int channel) {
    if (!isChannel(channel)) {
      throw new IndexOutOfBoundsException("no such channel");
    }
  }

  private void checkDecoder(int d) {
    if (d < 0 || d >= tree.leaves()) {
      throw new IndexOutOfBoundsException("no such decoder");
    }
  }

  private void checkByte(int i) {
    if (i < 0 || i >= onAir.length) {
      throw new IndexOutOfBoundsException("no such byte on the air");
    }
  }

  private void checkBegan(int channel) {
    if (channels[channel].periods == 0) {
      throw new IllegalStateException("no period began");
    }
  }

  private void checkInstalled(int d) {
    if (decoders[d] == null) {
      throw new IllegalStateException("not installed");
    }
  }

  private void putEntry(Channel c, int s) {
    tree.findKey(cipher, c.vs[s], c.ws[s]);
    cipher.setKey(cipher.high, cipher.low);
    envelope.wrap(cipher, c.high, c.low);
    onAir.put(c.vs[s], 2);
    onAir.put(c.ws[s], 2);
    onAir.put(envelope.check, 8);
    onAir.put(envelope.high, 8);
    onAir.put(envelope.low, 8);
  }

  private boolean unwrapEntry(int at, int v, int w) {
    tree.findKey(cipher, v, w);
    cipher.setKey(cipher.high, cipher.low);
    envelope.check = onAir.read(at + 4, 8);
    envelope.high = onAir.read(at + 12, 8);
    envelope.low = onAir.read(at + 20, 8);
    return envelope.unwrap(cipher);
  }

  private void maskBlock(int channel, int period, long i, long high, long low) {
    cipher.encrypt(65536L * channel + period, i);
    outHigh = high ^ cipher.high;
    outLow = low ^ cipher.low;
  }

  private int installedDecoders() {
    int installed = 0;
    for (int d = 0; d < MOST_DECODERS; d++) {
      if (decoders[d] != null) {
        installed++;
      }
    }
    return installed;
  }

  private int subscribersOfAll() {
    int all = 0;
    for (int c = 0; c < CHANNELS; c++) {
      for (int d = 0; d < MOST_DECODERS; d++) {
        if (channels[c].subscribers[d]) {
          all++;
        }
      }
    }
    return all;
  }

  /** High and low are the block made last: to hand it out in an object of its own would cost one for each block. */
  private static final class Cipher {
    private static final int ROUNDS = 10;
    private static final int WORDS = 4 * ROUNDS + 4;

    final int[] words = new int[WORDS];
    long high;
    long low;

    void setKey(long keyHigh, long keyLow) {
      words[0] = (int) (keyHigh >>> 32);
      words[1] = (int) keyHigh;
      words[2] = (int) (keyLow >>> 32);
      words[3] = (int) keyLow;
      int power = 1;
      for (int i = 4; i < WORDS; i++) {
        int word = words[i - 1];
        if (i % 4 == 0) {
          int turned = turn(word, 8);
          word = gather(SUB, turned, turned, turned, turned) ^ power << 24;
          power = twice(power);
        }
        words[i] = words[i - 4] ^ word;
      }
    }

    void encrypt(long plainHigh, long plainLow) {
      int a = (int) (plainHigh >>> 32) ^ words[0];
      int b = (int) plainHigh ^ words[1];
      int c = (int) (plainLow >>> 32) ^ words[2];
      int d = (int) plainLow ^ words[3];
      for (int r = 1; r <= ROUNDS; r++) {
        int e = gather(SUB, a, b, c, d);
        int f = gather(SUB, b, c, d, a);
        int g = gather(SUB, c, d, a, b);
        int h = gather(SUB, d, a, b, c);
        boolean mixes = r < ROUNDS;
        a = (mixes ? mix(e) : e) ^ words[4 * r];
        b = (mixes ? mix(f) : f) ^ words[4 * r + 1];
        c = (mixes ? mix(g) : g) ^ words[4 * r + 2];
        d = (mixes ? mix(h) : h) ^ words[4 * r + 3];
      }
      keepBlock(a, b, c, d);
    }

    void decrypt(long sealedHigh, long sealedLow) {
      int a = (int) (sealedHigh >>> 32);
      int b = (int) sealedHigh;
      int c = (int) (sealedLow >>> 32);
      int d = (int) sealedLow;
      for (int r = ROUNDS; r >= 1; r--) {
        boolean mixed = r < ROUNDS;
        int e = a ^ words[4 * r];
        int f = b ^ words[4 * r + 1];
        int g = c ^ words[4 * r + 2];
        int h = d ^ words[4 * r + 3];
        e = mixed ? unmix(e) : e;
        f = mixed ? unmix(f) : f;
        g = mixed ? unmix(g) : g;
        h = mixed ? unmix(h) : h;
        a = gather(UNSUB, e, h, g, f);
        b = gather(UNSUB, f, e, h, g);
        c = gather(UNSUB, g, f, e, h);
        d = gather(UNSUB, h, g, f, e);
      }
      keepBlock(a ^ words[0], b ^ words[1], c ^ words[2], d ^ words[3]);
    }

    private void keepBlock(int a, int b, int c, int d) {
      high = (long) a << 32 | b & 0xFFFFFFFFL;
      low = (long) c << 32 | d & 0xFFFFFFFFL;
    }

    /** Byte k of a column comes from another column for each k: which ones, the caller says by their order. */
    private static int gather(int[] table, int first, int second, int third, int fourth) {
      return table[first >>> 24] << 24
          | table[second >>> 16 & 255] << 16
          | table[third >>> 8 & 255] << 8
          | table[fourth & 255];
    }

    private static int turn(int column, int bits) {
      return column << bits | column >>> 32 - bits;
    }

    /** All four bytes at once: the highest bits are taken off first, so that none goes over to its neighbour. */
    private static int twice(int column) {
      return (column & 0x7F7F7F7F) << 1 ^ (column >>> 7 & 0x01010101) * 0x1B;
    }

    private static int mix(int column) {
      int doubled = twice(column);
      return doubled ^ turn(doubled ^ column, 8) ^ turn(column, 16) ^ turn(column, 24);
    }

    /**
     * Four times mix changes nothing, so three times mix is its inverse; the first two of them together
     * make 5a 4c of a column's a (and so on), which is what is done here before mix.
     */
    private static int unmix(int column) {
      return mix(column ^ twice(twice(column ^ turn(column, 16))));
    }
  }

  /** A wrapped key, made once for each object and used again for every subset. */
  private static final class Envelope {
    private static final long SEAL = 0xA6A6A6A6A6A6A6A6L;
    private static final int STEPS = 12;

    long check;
    long high;
    long low;

    void wrap(Cipher cipher, long plainHigh, long plainLow) {
      check = SEAL;
      high = plainHigh;
      low = plainLow;
      for (int t = 1; t <= STEPS; t++) {
        cipher.encrypt(check, t % 2 == 1 ? high : low);
        check = cipher.high ^ t;
        keepHalf(t, cipher.low);
      }
    }

    boolean unwrap(Cipher cipher) {
      for (int t = STEPS; t >= 1; t--) {
        cipher.decrypt(check ^ t, t % 2 == 1 ? high : low);
        check = cipher.high;
        keepHalf(t, cipher.low);
      }
      return check == SEAL;
    }

    private void keepHalf(int t, long half) {
      if (t % 2 == 1) {
        high = half;
      } else {
        low = half;
      }
    }
  }

  /** Labels and keys are found from the seed each time: to store all that decoders have would fill the room. */
  private static final class Tree {
    int depth;
    long seedHigh;
    long seedLow;

    void plant(int newDepth, long high, long low) {
      depth = newDepth;
      seedHigh = high;
      seedLow = low;
    }

    int leaves() {
      return 1 << depth;
    }

    int labelsEach() {
      return depth * (depth + 1) / 2;
    }

    /** 0 if w is v itself; NONE if it is not below. */
    private static int levelsBelow(int w, int v) {
      for (int levels = 0; levels <= DEEPEST; levels++) {
        if (w >> levels == v) {
          return levels;
        }
      }
      return NONE;
    }

    boolean isSubset(int v, int w) {
      if (v == 0 && w == 0) {
        return true;
      }
      return v >= 1 && w < 2 * leaves() && levelsBelow(w, v) >= 1;
    }

    /** One of d's labels with this v is above w (or at it) just when v is above d's leaf and w is not. */
    boolean derives(int d, int v, int w) {
      if (!isSubset(v, w)) {
        return false;
      }
      int leaf = leaves() + d;
      return v == 0 || levelsBelow(leaf, v) >= 1 && levelsBelow(leaf, w) == NONE;
    }

    int labelTop(int d, int k) {
      return leaves() + d >> depth - levelOfTop(k);
    }

    int labelFoot(int d, int k) {
      int level = levelOfTop(k);
      int footLevel = level + 1 + k - labelsAbove(level);
      return leaves() + d >> depth - footLevel ^ 1;
    }

    private int levelOfTop(int k) {
      int level = 0;
      while (level < depth - 1 && k >= labelsAbove(level + 1)) {
        level++;
      }
      return level;
    }

    /** The v at level l has depth - l labels, one for each level below it. */
    private int labelsAbove(int level) {
      return level * depth - level * (level - 1) / 2;
    }

    void findLabel(Cipher cipher, int v, int w) {
      cipher.setKey(seedHigh, seedLow);
      cipher.encrypt(0, v);
      for (int levels = levelsBelow(w, v) - 1; levels >= 0; levels--) {
        cipher.setKey(cipher.high, cipher.low);
        cipher.encrypt(0, 1 + (w >> levels & 1));
      }
    }

    void findKey(Cipher cipher, int v, int w) {
      if (v == 0) {
        cipher.setKey(seedHigh, seedLow);
        cipher.encrypt(0, 0);
      } else {
        findLabel(cipher, v, w);
        cipher.setKey(cipher.high, cipher.low);
        cipher.encrypt(0, 3);
      }
    }
  }

  /** Stands apart from the channels so that all of them share one row of marks. */
  private static final class Cover {
    final boolean[] marked = new boolean[2 * MOST_DECODERS];

    void find(Tree tree, Channel channel) {
      int leaves = tree.leaves();
      markNodes(leaves, channel.subscribers);
      channel.subsets = 0;
      if (!marked[1]) {
        channel.addSubset(0, 0);
        return;
      }
      for (int v = 1; v < leaves; v++) {
        if (marked[v] && (v == 1 || marked[v ^ 1])) {
          int w = lastBelow(v, leaves);
          if (w != v) {
            channel.addSubset(v, w);
          }
        }
      }
    }

    private void markNodes(int leaves, boolean[] subscribers) {
      for (int d = 0; d < leaves; d++) {
        marked[leaves + d] = !subscribers[d];
      }
      for (int v = leaves - 1; v >= 1; v--) {
        marked[v] = marked[2 * v] || marked[2 * v + 1];
      }
    }

    private int lastBelow(int v, int leaves) {
      int w = v;
      for (int level = 0; level < DEEPEST && w < leaves; level++) {
        boolean left = marked[2 * w];
        boolean right = marked[2 * w + 1];
        if (left == right) {
          return w;
        }
        w = left ? 2 * w : 2 * w + 1;
      }
      return w;
    }
  }

  /** Its header has the subsets alone: what is wrapped for them is made anew for each packet. */
  private static final class Channel {
    final boolean[] subscribers = new boolean[MOST_DECODERS];
    final int[] vs = new int[MOST_SUBSETS];
    final int[] ws = new int[MOST_SUBSETS];
    int periods;
    int subsets;
    long high;
    long low;

    void clear() {
      periods = 0;
      subsets = 0;
      for (int d = 0; d < MOST_DECODERS; d++) {
        subscribers[d] = false;
      }
    }

    void beginPeriod(long keyHigh, long keyLow) {
      periods++;
      high = keyHigh;
      low = keyLow;
    }

    void addSubset(int v, int w) {
      if (subsets < MOST_SUBSETS) {
        vs[subsets] = v;
        ws[subsets] = w;
        subsets++;
      }
    }

    int packets() {
      return Math.max(1, (subsets + ENTRIES - 1) / ENTRIES);
    }
  }

  /** Only what it has heard: its labels follow from its place and the seed. */
  private static final class Decoder {
    final int[] periods = {NONE, NONE, NONE, NONE};
    final long[] highs = new long[CHANNELS];
    final long[] lows = new long[CHANNELS];

    void keep(int channel, int period, long high, long low) {
      periods[channel] = period;
      highs[channel] = high;
      lows[channel] = low;
    }
  }

  /** The length 0 says that nothing is on the air: a packet has its first five bytes always. */
  private static final class Packet {
    final int[] bytes = new int[HEAD_BYTES + ENTRIES * ENTRY_BYTES];
    int length;

    void clear() {
      length = 0;
    }

    void put(long value, int size) {
      for (int b = size - 1; b >= 0 && length < bytes.length; b--) {
        bytes[length] = (int) (value >>> 8 * b) & 255;
        length++;
      }
    }

    long read(int from, int size) {
      long value = 0;
      for (int i = from; i < from + size && i < length; i++) {
        value = value << 8 | bytes[i];
      }
      return value;
    }
  }
}
