import java.security.GeneralSecurityException;
import java.util.ArrayList;
import java.util.Arrays;
import java.util.HashMap;
import java.util.List;
import java.util.Map;
import java.util.TreeSet;
import javax.crypto.Cipher;
import javax.crypto.spec.SecretKeySpec;

/**
 * The document once more, written to be compared with CoverKeys: the JDK's AES and key wrap, decoders that
 * really store their labels, headers that are wrapped whole when a period begins.
 */
final class Model {
  private record Label(int v, int w, byte[] bytes) {}

  private record Subset(int v, int w) {}

  private record Held(int period, byte[] key) {}

  private static final class Station {
    final TreeSet<Integer> subscribers = new TreeSet<>();
    int periods;
    byte[] key;
    List<Subset> header;
    List<byte[]> packets;
  }

  private static final class Box {
    final List<Label> labels = new ArrayList<>();
    final Map<Integer, Held> held = new HashMap<>();
    byte[] allKey;
  }

  private int depth;
  private byte[] seed;
  private Map<Integer, Box> boxes;
  private Station[] stations;
  private byte[] air;
  private byte[] out = new byte[16];

  Model() {
    begin(4, 0, 0);
  }

  void begin(int newDepth, long high, long low) {
    if (newDepth < 1 || newDepth > 8) throw new IllegalArgumentException();
    depth = newDepth;
    seed = bytes(high, low);
    boxes = new HashMap<>();
    stations = new Station[] {new Station(), new Station(), new Station(), new Station()};
    air = new byte[0];
  }

  int install(int d) {
    decoder(d);
    if (boxes.containsKey(d)) throw new IllegalStateException();
    Box box = new Box();
    box.allKey = aes(true, seed, bytes(0, 0));
    List<Integer> path = upwards(leaf(d));
    for (int v = 1; v < nodes(); v++) {
      if (v == leaf(d) || !path.contains(v)) continue;
      for (int w = v + 1; w < nodes(); w++) {
        if (upwards(w).contains(v) && !path.contains(w) && path.contains(w / 2)) {
          box.labels.add(new Label(v, w, headLabel(v, w)));
        }
      }
    }
    boxes.put(d, box);
    return box.labels.size();
  }

  boolean subscribe(int d, int channel, boolean is) {
    decoder(d);
    channel(channel);
    return is ? stations[channel].subscribers.add(d) : stations[channel].subscribers.remove(d);
  }

  int period(int channel, long high, long low) {
    channel(channel);
    Station s = stations[channel];
    if (s.periods == 999) throw new UnsupportedOperationException();
    s.periods++;
    s.key = bytes(high, low);
    s.header = cover(s.subscribers);
    s.packets = packets(channel, s);
    return s.header.size();
  }

  int packet(int channel, int n) {
    channel(channel);
    began(channel);
    Station s = stations[channel];
    if (n < 0 || n >= s.packets.size()) throw new IllegalArgumentException();
    air = s.packets.get(n).clone();
    return air.length;
  }

  int air(int i) {
    if (i < 0 || i >= air.length) throw new IndexOutOfBoundsException();
    return air[i] & 255;
  }

  void flip(int i, int mask) {
    if (i < 0 || i >= air.length) throw new IndexOutOfBoundsException();
    air[i] = (byte) (air[i] ^ mask);
  }

  int hear(int d) {
    decoder(d);
    Box box = boxes.get(d);
    if (box == null || air.length == 0) throw new IllegalStateException();
    if ((air[0] & 255) > 3) return 0;
    int broken = 0;
    for (int at = 5; at < air.length; at += 28) {
      byte[] key = derived(box, number(at, 2), number(at + 2, 2));
      if (key == null) continue;
      byte[] plain = unwrapped(key, Arrays.copyOfRange(air, at + 4, at + 28));
      if (plain != null) {
        box.held.put((int) air[0], new Held(number(1, 2), plain));
        return 1;
      }
      broken++;
    }
    return broken > 0 ? -1 : 0;
  }

  int has(int d, int channel) {
    decoder(d);
    channel(channel);
    Held held = boxes.containsKey(d) ? boxes.get(d).held.get(channel) : null;
    return held == null ? -1 : held.period;
  }

  void seal(int channel, long i, long high, long low) {
    channel(channel);
    began(channel);
    mask(stations[channel].key, channel, stations[channel].periods, i, bytes(high, low));
  }

  void open(int d, int channel, long i, long high, long low) {
    if (has(d, channel) == -1) throw new IllegalStateException();
    Held held = boxes.get(d).held.get(channel);
    mask(held.key, channel, held.period, i, bytes(high, low));
  }

  long out(boolean second) {
    return half(out, second);
  }

  int subset(int channel, int n, boolean second) {
    if (channel < 0 || channel > 3) throw new IllegalStateException();
    began(channel);
    List<Subset> header = stations[channel].header;
    if (n < 0 || n >= header.size()) throw new IndexOutOfBoundsException();
    return second ? header.get(n).w : header.get(n).v;
  }

  long label(int d, int k, int what) {
    decoder(d);
    if (!boxes.containsKey(d)) throw new IllegalStateException();
    List<Label> labels = boxes.get(d).labels;
    if (k < 0 || k >= labels.size() || what < 0 || what > 3) throw new IllegalArgumentException();
    Label label = labels.get(k);
    return what == 0 ? label.v : what == 1 ? label.w : half(label.bytes, what == 3);
  }

  int reach(int d, int channel) {
    decoder(d);
    channel(channel);
    began(channel);
    if (!boxes.containsKey(d)) throw new IllegalStateException();
    int reached = 0;
    for (Subset s : stations[channel].header) {
      if (derived(boxes.get(d), s.v, s.w) != null) reached++;
    }
    return reached;
  }

  long key(int v, int w, boolean second) {
    if (!ofThisTree(v, w)) throw new IllegalArgumentException();
    return half(headKey(v, w), second);
  }

  int count(int what) {
    if (what < 0 || what > 7) throw new IllegalArgumentException();
    if (what == 0) return depth;
    if (what == 1) return boxes.size();
    if (what == 3) return air.length;
    if (what > 3) return stations[what - 4].periods;
    int all = 0;
    for (Station s : stations) all += s.subscribers.size();
    return all;
  }

  private void decoder(int d) {
    if (d < 0 || d >= 1 << depth) throw new IndexOutOfBoundsException();
  }

  private static void channel(int channel) {
    if (channel < 0 || channel > 3) throw new IndexOutOfBoundsException();
  }

  private void began(int channel) {
    if (stations[channel].periods == 0) throw new IllegalStateException();
  }

  private int nodes() {
    return 1 << depth + 1;
  }

  private int leaf(int d) {
    return (1 << depth) + d;
  }

  private static List<Integer> upwards(int node) {
    List<Integer> all = new ArrayList<>();
    for (int n = node; n > 0; n /= 2) all.add(n);
    return all;
  }

  private boolean ofThisTree(int v, int w) {
    if (v == 0 && w == 0) return true;
    return v > 0 && w > 0 && v < nodes() && w < nodes() && v != w && upwards(w).contains(v);
  }

  private byte[] headLabel(int v, int x) {
    if (x == v) return aes(true, seed, bytes(0, v));
    return aes(true, headLabel(v, x / 2), bytes(0, x % 2 == 0 ? 1 : 2));
  }

  private byte[] headKey(int v, int w) {
    return v == 0 ? aes(true, seed, bytes(0, 0)) : aes(true, headLabel(v, w), bytes(0, 3));
  }

  /** By what the decoder stores alone, without the seed. */
  private byte[] derived(Box box, int v, int w) {
    if (!ofThisTree(v, w)) return null;
    if (v == 0) return box.allKey;
    for (Label label : box.labels) {
      List<Integer> way = upwards(w);
      int steps = way.indexOf(label.w);
      if (label.v != v || steps < 0) continue;
      byte[] at = label.bytes;
      for (int s = steps - 1; s >= 0; s--) at = aes(true, at, bytes(0, way.get(s) % 2 == 0 ? 1 : 2));
      return aes(true, at, bytes(0, 3));
    }
    return null;
  }

  private List<Subset> cover(TreeSet<Integer> subscribers) {
    TreeSet<Integer> marked = new TreeSet<>();
    for (int d = 0; d < 1 << depth; d++) {
      if (!subscribers.contains(d)) marked.addAll(upwards(leaf(d)));
    }
    List<Subset> cover = new ArrayList<>();
    if (marked.isEmpty()) cover.add(new Subset(0, 0));
    for (int v : marked) {
      if (v != 1 && !(marked.contains(v / 2 * 2) && marked.contains(v / 2 * 2 + 1))) continue;
      int w = v;
      while (marked.contains(2 * w) ^ marked.contains(2 * w + 1)) w = marked.contains(2 * w) ? 2 * w : 2 * w + 1;
      if (w != v) cover.add(new Subset(v, w));
    }
    return cover;
  }

  private List<byte[]> packets(int channel, Station s) {
    int many = s.header.isEmpty() ? 1 : (s.header.size() + 7) / 8;
    List<byte[]> packets = new ArrayList<>();
    for (int n = 0; n < many; n++) {
      List<Subset> part = s.header.subList(8 * n, Math.min(8 * n + 8, s.header.size()));
      byte[] packet = new byte[5 + 28 * part.size()];
      packet[0] = (byte) channel;
      packet[1] = (byte) (s.periods / 256);
      packet[2] = (byte) (s.periods % 256);
      packet[3] = (byte) n;
      packet[4] = (byte) many;
      int at = 5;
      for (Subset subset : part) {
        packet[at] = (byte) (subset.v / 256);
        packet[at + 1] = (byte) (subset.v % 256);
        packet[at + 2] = (byte) (subset.w / 256);
        packet[at + 3] = (byte) (subset.w % 256);
        System.arraycopy(wrapped(headKey(subset.v, subset.w), s.key), 0, packet, at + 4, 24);
        at += 28;
      }
      packets.add(packet);
    }
    return packets;
  }

  private void mask(byte[] key, int channel, int period, long i, byte[] block) {
    byte[] with = aes(true, key, bytes(65536L * channel + period, i));
    out = new byte[16];
    for (int b = 0; b < 16; b++) out[b] = (byte) (block[b] ^ with[b]);
  }

  private int number(int from, int size) {
    int value = 0;
    for (int i = 0; i < size; i++) value = 256 * value + (air[from + i] & 255);
    return value;
  }

  static byte[] bytes(long high, long low) {
    byte[] all = new byte[16];
    for (int i = 0; i < 8; i++) {
      all[i] = (byte) (high >> 56 - 8 * i);
      all[8 + i] = (byte) (low >> 56 - 8 * i);
    }
    return all;
  }

  static long half(byte[] block, boolean second) {
    long value = 0;
    for (int i = second ? 8 : 0; i < (second ? 16 : 8); i++) value = value << 8 | block[i] & 255;
    return value;
  }

  static byte[] aes(boolean encrypt, byte[] key, byte[] block) {
    try {
      Cipher cipher = Cipher.getInstance("AES/ECB/NoPadding");
      cipher.init(encrypt ? Cipher.ENCRYPT_MODE : Cipher.DECRYPT_MODE, new SecretKeySpec(key, "AES"));
      return cipher.doFinal(block);
    } catch (GeneralSecurityException e) {
      throw new AssertionError(e);
    }
  }

  static byte[] wrapped(byte[] under, byte[] key) {
    try {
      Cipher cipher = Cipher.getInstance("AESWrap");
      cipher.init(Cipher.WRAP_MODE, new SecretKeySpec(under, "AES"));
      return cipher.wrap(new SecretKeySpec(key, "AES"));
    } catch (GeneralSecurityException e) {
      throw new AssertionError(e);
    }
  }

  /** Null if it is not right. */
  private static byte[] unwrapped(byte[] under, byte[] packed) {
    byte[] a = Arrays.copyOf(packed, 8);
    byte[][] halves = {Arrays.copyOfRange(packed, 8, 16), Arrays.copyOfRange(packed, 16, 24)};
    for (int t = 12; t >= 1; t--) {
      int h = t % 2 == 1 ? 0 : 1;
      byte[] block = Arrays.copyOf(a, 16);
      block[7] ^= (byte) t;
      System.arraycopy(halves[h], 0, block, 8, 8);
      block = aes(false, under, block);
      a = Arrays.copyOf(block, 8);
      halves[h] = Arrays.copyOfRange(block, 8, 16);
    }
    for (byte b : a) {
      if ((b & 255) != 0xA6) return null;
    }
    byte[] key = Arrays.copyOf(halves[0], 16);
    System.arraycopy(halves[1], 0, key, 8, 8);
    return key;
  }
}
