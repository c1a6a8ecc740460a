/** The cipher as the document's words tell it, byte by byte, without a table: slow, but nothing to get wrong by heart. */
final class DocCipher {
  private DocCipher() {}

  static int product(int a, int b) {
    int sum = 0;
    for (int i = 0; i < 8; i++) {
      if ((b >> i & 1) == 1) sum ^= a << i;
    }
    for (int i = 14; i >= 8; i--) {
      if ((sum >> i & 1) == 1) sum ^= 0b1_0001_1011 << i - 8;
    }
    return sum;
  }

  static int sub(int b) {
    int c = 0;
    for (int other = 1; other < 256; other++) {
      if (product(b, other) == 1) c = other;
    }
    int answer = 0x63;
    for (int i = 0; i < 8; i++) {
      for (int j : new int[] {i, i + 4, i + 5, i + 6, i + 7}) {
        if ((c >> j % 8 & 1) == 1) answer ^= 1 << i;
      }
    }
    return answer;
  }

  private static int[][] roundKeys(int[] key) {
    int[][] words = new int[44][4];
    for (int i = 0; i < 44; i++) {
      for (int k = 0; k < 4; k++) {
        if (i < 4) {
          words[i][k] = key[4 * i + k];
        } else if (i % 4 == 0) {
          words[i][k] = words[i - 4][k] ^ sub(words[i - 1][(k + 1) % 4]);
        } else {
          words[i][k] = words[i - 4][k] ^ words[i - 1][k];
        }
      }
      if (i >= 4 && i % 4 == 0) {
        int power = 1;
        for (int times = 0; times < i / 4 - 1; times++) power = product(power, 2);
        words[i][0] ^= power;
      }
    }
    return words;
  }

  static int[] encrypt(int[] key, int[] block) {
    int[][] words = roundKeys(key);
    int[] state = new int[16];
    for (int b = 0; b < 16; b++) state[b] = block[b] ^ words[b / 4][b % 4];
    for (int r = 1; r <= 10; r++) {
      int[] moved = new int[16];
      for (int b = 0; b < 16; b++) {
        int column = (b / 4 - b % 4 + 4) % 4;
        moved[4 * column + b % 4] = sub(state[b]);
      }
      if (r < 10) moved = mixed(moved);
      for (int b = 0; b < 16; b++) state[b] = moved[b] ^ words[4 * r + b / 4][b % 4];
    }
    return state;
  }

  private static int[] mixed(int[] state) {
    int[] answer = new int[16];
    for (int at = 0; at < 16; at += 4) {
      for (int k = 0; k < 4; k++) {
        answer[at + k] = product(2, state[at + k]) ^ product(3, state[at + (k + 1) % 4])
            ^ state[at + (k + 2) % 4] ^ state[at + (k + 3) % 4];
      }
    }
    return answer;
  }

  static long half(int[] block, boolean second) {
    long value = 0;
    for (int b = 0; b < 8; b++) value = value << 8 | block[(second ? 8 : 0) + b];
    return value;
  }

  static int[] block(long high, long low) {
    int[] bytes = new int[16];
    for (int b = 0; b < 8; b++) {
      bytes[b] = (int) (high >>> 56 - 8 * b) & 255;
      bytes[8 + b] = (int) (low >>> 56 - 8 * b) & 255;
    }
    return bytes;
  }
}
