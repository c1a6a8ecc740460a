import java.util.ArrayList;
import java.util.List;
import java.util.Random;

/**
 * Runs of as many calls as an object is used for, each run from a written seed, on CoverKeys and on the model:
 * every answer must be the same.
 */
public final class ModelTest {
  private static final int RUNS = 600;
  // Of the calls of a run so many are left when the last subscriber of the crowd has come, and so many only look.
  private static final int BEHIND_THE_CROWD = 256;
  private static final int LOOKS = 60;
  private static final String[] NAMES = {
    "begin", "install", "subscribe", "period", "packet", "air", "flip", "hear", "has", "seal", "open", "out",
    "subset", "label", "reach", "key", "count"
  };
  // How often each is called, in the order of the names, and how often at the end, when the state is looked at.
  private static final int[] WEIGHTS = {1, 30, 90, 25, 60, 40, 60, 120, 30, 15, 30, 30, 30, 30, 25, 25, 20};
  private static final int[] LOOKING = {0, 0, 0, 0, 0, 30, 0, 0, 30, 0, 0, 4, 20, 10, 20, 10, 20};

  private final Random random;
  private final Counted real = new Counted();
  private final Model model = new Model();
  private final List<String> told = new ArrayList<>();
  private int leaves = 16;

  private ModelTest(long seed) {
    random = new Random(seed);
  }

  public static void main(String[] args) {
    for (int run = 0; run < RUNS; run++) {
      if (!new ModelTest(run).agrees(run)) System.exit(1);
    }
    everyCoverOfASmallTree();
    System.out.println("the model agrees in " + RUNS + " runs");
  }

  private boolean agrees(int run) {
    int depth = run % 9;
    if (depth > 0 && !step(0, new long[] {depth, random.nextLong(), random.nextLong()})) return false;
    if (!crowd()) return false;
    while (real.callsLeft() > 0) {
      int op = pick(real.callsLeft() > LOOKS ? WEIGHTS : LOOKING);
      if (!step(op, arguments(op))) return false;
    }
    return true;
  }

  /** Random calls alone would seldom make large covers, so channels start with many subscribers. */
  private boolean crowd() {
    int first = random.nextInt(4);
    for (int c = 0; c < 4; c++) {
      int share = random.nextInt(5);
      for (int d = 0; d < leaves; d++) {
        boolean comes = random.nextInt(4) < share && real.callsLeft() > BEHIND_THE_CROWD;
        if (comes && !step(2, new long[] {d, (first + c) % 4, 1})) return false;
      }
    }
    return true;
  }

  private int pick(int[] weights) {
    int all = 0;
    for (int weight : weights) all += weight;
    int at = random.nextInt(all);
    int op = 0;
    while (at >= weights[op]) at -= weights[op++];
    return op;
  }

  private long[] arguments(int op) {
    switch (NAMES[op]) {
      case "begin": return new long[] {random.nextInt(11) - 1, number(), number()};
      case "install": case "hear": return new long[] {decoder()};
      case "subscribe": return new long[] {decoder(), channel(), random.nextInt(2)};
      case "period": return new long[] {channel(), number(), number()};
      case "packet": return new long[] {channel(), random.nextInt(8) == 0 ? random.nextInt(20) - 2 : 0};
      case "air": return new long[] {random.nextInt(240) - 2};
      case "flip": return flipArguments();
      case "has": case "reach": return new long[] {decoder(), channel()};
      case "seal": return new long[] {channel(), number(), number(), number()};
      case "open": return new long[] {decoder(), channel(), number(), number(), number()};
      case "out": return new long[] {random.nextInt(2)};
      case "subset": return new long[] {channel(), random.nextInt(random.nextBoolean() ? 4 : 130) - 1, random.nextInt(2)};
      case "label": return new long[] {decoder(), random.nextInt(leaves > 16 ? 38 : 13) - 1, random.nextInt(6) - 1};
      case "key": return keyArguments();
      default: return new long[] {random.nextInt(10) - 1};
    }
  }

  private long[] flipArguments() {
    int kind = random.nextInt(4);
    if (kind == 0) return new long[] {0, 1 + random.nextInt(3)};
    if (kind == 1) return new long[] {5 + random.nextInt(4), 1 << random.nextInt(8)};
    if (kind == 2) return new long[] {random.nextInt(40) - 1, random.nextInt()};
    return new long[] {random.nextInt(230), 1 << random.nextInt(10)};
  }

  private long[] keyArguments() {
    int w = 1 + random.nextInt(2 * leaves);
    int v = random.nextInt(5) == 0 ? random.nextInt(2 * leaves + 4) - 2 : w >> random.nextInt(9);
    return new long[] {v, random.nextInt(10) == 0 ? 0 : w, random.nextInt(2)};
  }

  private int decoder() {
    return random.nextInt(25) == 0 ? (random.nextBoolean() ? -1 : leaves) : random.nextInt(Math.min(leaves, 24));
  }

  private int channel() {
    return random.nextInt(25) == 0 ? (random.nextBoolean() ? -1 : 4) : random.nextInt(4);
  }

  private long number() {
    return random.nextInt(3) == 0 ? random.nextInt(3) - 1 : random.nextLong();
  }

  private boolean step(int op, long[] a) {
    String got = answer(op, a, true);
    String want = answer(op, a, false);
    StringBuilder call = new StringBuilder(NAMES[op]).append('(');
    for (int i = 0; i < a.length; i++) call.append(i == 0 ? "" : ", ").append(a[i]);
    told.add(call.append(") -> ").append(got).toString());
    if (op == 0 && want.equals("done")) leaves = 1 << a[0];
    if (got.equals(want)) return true;
    for (String line : told) System.out.println(line);
    System.out.println("the last call is wrong: due is " + want);
    return false;
  }

  private String answer(int op, long[] a, boolean ofReal) {
    try {
      return ofReal ? realAnswer(op, a) : modelAnswer(op, a);
    } catch (RuntimeException e) {
      return "throws." + e.getClass().getSimpleName();
    }
  }

  private String realAnswer(int op, long[] a) {
    Counted x = real;
    switch (NAMES[op]) {
      case "begin": x.begin((int) a[0], a[1], a[2]); return "done";
      case "install": return "" + x.install((int) a[0]);
      case "subscribe": return "" + x.subscribe((int) a[0], (int) a[1], a[2] == 1);
      case "period": return "" + x.period((int) a[0], a[1], a[2]);
      case "packet": return "" + x.packet((int) a[0], (int) a[1]);
      case "air": return "" + x.air((int) a[0]);
      case "flip": x.flip((int) a[0], (int) a[1]); return "done";
      case "hear": return "" + x.hear((int) a[0]);
      case "has": return "" + x.has((int) a[0], (int) a[1]);
      case "seal": x.seal((int) a[0], a[1], a[2], a[3]); return "done";
      case "open": x.open((int) a[0], (int) a[1], a[2], a[3], a[4]); return "done";
      case "out": return "" + x.out(a[0] == 1);
      case "subset": return "" + x.subset((int) a[0], (int) a[1], a[2] == 1);
      case "label": return "" + x.label((int) a[0], (int) a[1], (int) a[2]);
      case "reach": return "" + x.reach((int) a[0], (int) a[1]);
      case "key": return "" + x.key((int) a[0], (int) a[1], a[2] == 1);
      default: return "" + x.count((int) a[0]);
    }
  }

  private String modelAnswer(int op, long[] a) {
    Model x = model;
    switch (NAMES[op]) {
      case "begin": x.begin((int) a[0], a[1], a[2]); return "done";
      case "install": return "" + x.install((int) a[0]);
      case "subscribe": return "" + x.subscribe((int) a[0], (int) a[1], a[2] == 1);
      case "period": return "" + x.period((int) a[0], a[1], a[2]);
      case "packet": return "" + x.packet((int) a[0], (int) a[1]);
      case "air": return "" + x.air((int) a[0]);
      case "flip": x.flip((int) a[0], (int) a[1]); return "done";
      case "hear": return "" + x.hear((int) a[0]);
      case "has": return "" + x.has((int) a[0], (int) a[1]);
      case "seal": x.seal((int) a[0], a[1], a[2], a[3]); return "done";
      case "open": x.open((int) a[0], (int) a[1], a[2], a[3], a[4]); return "done";
      case "out": return "" + x.out(a[0] == 1);
      case "subset": return "" + x.subset((int) a[0], (int) a[1], a[2] == 1);
      case "label": return "" + x.label((int) a[0], (int) a[1], (int) a[2]);
      case "reach": return "" + x.reach((int) a[0], (int) a[1]);
      case "key": return "" + x.key((int) a[0], (int) a[1], a[2] == 1);
      default: return "" + x.count((int) a[0]);
    }
  }

  /** What a cover is for, whichever way it is found: each subscriber reaches one subset, nobody else any. */
  private static void everyCoverOfASmallTree() {
    for (int set = 0; set < 256; set++) {
      Counted x = new Counted();
      x.begin(3, 5, set);
      for (int d = 0; d < 8; d++) {
        x.install(d);
        x.subscribe(d, 2, (set >> d & 1) == 1);
      }
      int subsets = x.period(2, set, ~set);
      x.packet(2, 0);
      for (int d = 0; d < 8; d++) {
        int due = set >> d & 1;
        if (x.reach(d, 2) != due || x.hear(d) != due || subsets > 4) {
          System.out.println("subscribers " + Integer.toBinaryString(set) + ": decoder " + d + " is wrong");
          System.exit(1);
        }
      }
    }
  }
}
