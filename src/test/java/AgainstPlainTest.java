import java.util.ArrayList;
import java.util.List;
import java.util.Random;

/** Long runs of calls, made by a seed, answered by ArsenalRow as by PlainArsenal. */
public final class AgainstPlainTest {
  /** Weight, name, and of each argument the least and the greatest number that is not refused at once. */
  private static final String[] CALLS = {
      "6 hands 0:3 0:400", "8 bring 0:5 0:3000", "2 bring 0:5 0:1000000", "3 row 0:3 0:30", "1 lose 0:3",
      "6 put 0:3 0:29 0:400", "3 copy 0:3 0:10 0:3 0:10 0:12", "3 lead 0:3 -1:3", "4 handsOn 0:3 0:2000",
      "5 decree 0:3 0:3 0:100 0:2000", "5 decree 2:3 0:3 1:60 0:200", "3 decree 1:1 0:3 0:9 0:300",
      "4 force 0:3 0:3 0:2000", "6 task 0:2 0:5 0:3 0:2000", "6 task 0:2 0:5 0:3 0:60",
      "6 needs 0:2 0:5 0:5 0:500", "6 needs 0:2 0:5 0:5 0:9", "6 hull 0:2 0:99 0:400", "3 hull 0:2 3:4 0:2000",
      "4 priority 0:15 0:99", "3 raft 0:5 1:1000", "4 unraft 0:5", "14 days 0:9", "3 days 0:70", "1 days 300:400",
      "5 breakUp 0:15", "2 growth 0:2 0:9", "6 tree 0:2 -9:9 1:500", "4 tree 0:1 -3:3 20:30",
      "3 part 0:2 0:2 -9:9 0:9 1:500", "5 part 0:2 0:1 -3:3 0:9 15:30", "6 match 0:2 0:7", "4 fell 0:15",
      "4 treeFor 0:15 0:5", "4 treeOf 0:39 0:4", "4 count 0:5 0:3000", "3 gap 0:39 0:3", "4 worst 0:5",
      "5 ready 0:15", "5 late 0:15", "8 hullOf 0:15 0:8", "6 basinOf 0:5 0:2", "4 stock 0:5", "4 told 0:17"};
  private static final int[] ODD = {-1, -2, -10, 4, 6, 16, 31, 40, 401, 501, 1001, 2001, 1000001,
      Integer.MIN_VALUE, Integer.MAX_VALUE};

  private final Random random;
  private final Calls row = Calls.of(new ArsenalRow());
  private final PlainArsenal plain = new PlainArsenal();
  private final List<String> log = new ArrayList<>();
  private static int wrong = 0;

  private AgainstPlainTest(long seed) {
    random = new Random(seed);
  }

  public static void main(String[] args) {
    int runs = args.length > 0 ? Integer.parseInt(args[0]) : 300;
    long first = args.length > 1 ? Long.parseLong(args[1]) : 1;
    for (long seed = first; seed < first + runs && wrong == 0; seed++) {
      new AgainstPlainTest(seed).run(seed);
    }
    System.out.println(wrong == 0 ? runs + " runs are as plain ones" : "a run is not as the plain one");
    if (wrong != 0) System.exit(1);
  }

  private void run(long seed) {
    if (random.nextInt(4) != 0) setUp();
    int trees = random.nextInt(3) == 0 ? 40 : 9;
    int orders = 2;
    while (log.size() < 500 && wrong == 0) {
      if (orders > 0 && random.nextInt(60) == 0) {
        orders--;
        askOrders(seed);
      }
      String[] words = pick().split(" ");
      if (words[1].equals("tree") && plain.trees.size() >= trees) continue;
      // Hulls come slowly, so that the orders of few of them can be asked.
      if (words[1].equals("hull") && random.nextInt(3) != 0) continue;
      int[] a = new int[words.length - 2];
      for (int k = 0; k < a.length; k++) a[k] = number(words[k + 2]);
      check(seed, words[1], a);
    }
  }

  private void askOrders(long seed) {
    check(seed, "least");
    for (int i = -1; i < 6; i++) check(seed, "order", i);
  }

  /** So that HULLS do come through. */
  private void setUp() {
    for (int c = 0; c < 4; c++) check(0, "hands", c, 5 + random.nextInt(60));
    for (int g = 0; g < 6; g++) check(0, "bring", g, random.nextInt(4000));
    for (int s = 0; s < 3; s++) {
      for (int b = 0; b < 6; b++) {
        check(0, "task", s, b, random.nextInt(4), random.nextInt(90));
        if (random.nextBoolean()) check(0, "needs", s, b, random.nextInt(6), random.nextInt(60));
      }
    }
    int hulls = 1 + random.nextInt(5);
    for (int h = 0; h < hulls; h++) check(0, "hull", random.nextInt(3), random.nextInt(100), random.nextInt(60));
    if (hulls < 4 || random.nextInt(3) == 0) askOrders(0);
  }

  private String pick() {
    int all = 0;
    for (String c : CALLS) all += Integer.parseInt(c.substring(0, c.indexOf(' ')));
    int at = random.nextInt(all);
    for (String c : CALLS) {
      at -= Integer.parseInt(c.substring(0, c.indexOf(' ')));
      if (at < 0) return c;
    }
    return CALLS[0];
  }

  private int number(String range) {
    int least = Integer.parseInt(range.substring(0, range.indexOf(':')));
    int most = Integer.parseInt(range.substring(range.indexOf(':') + 1));
    switch (random.nextInt(40)) {
      case 0:
        return ODD[random.nextInt(ODD.length)];
      case 1:
        return least - 1;
      case 2:
        return most + 1;
      case 3:
        return least;
      case 4:
        return most;
      default:
        // Numbers of hulls, trees and inventories begin at 0, so small ones are asked more often.
        int n = least + random.nextInt(most - least + 1);
        return most >= 15 && most <= 39 && random.nextBoolean() ? least + (n - least) / 4 : n;
    }
  }

  private void check(long seed, String name, int... a) {
    StringBuilder text = new StringBuilder(name).append('(');
    for (int k = 0; k < a.length; k++) text.append(k == 0 ? "" : ", ").append(a[k]);
    int got = row.call(name, a);
    int want = plain.call(name, a);
    log.add(text + ") = " + got);
    if (got != want) {
      wrong++;
      for (String line : log) System.out.println(line);
      System.out.println("seed " + seed + ": " + text + ") answered " + got + ", due is " + want);
    }
  }
}
