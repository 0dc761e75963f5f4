import java.util.Arrays;

/**
 * Every call with every set of numbers at and beside the edges, of objects that are new, busy
 * and full: answered as by PlainArsenal, and what was not refused leaves the same behind.
 */
public final class EdgesAgainstPlainTest {
  /** Name, and of each argument the numbers to be tried; L and H are the least and the greatest int. */
  private static final String[] CALLS = {
      "hands -1,0,1,3,4,L,H -1,0,1,400,401,L,H",
      "bring -1,0,2,5,6,L,H -1,0,1,998999,999000,999001,999310,999311,1000000,1000001,L,H",
      "row -1,0,1,2,3,4,L,H -1,0,1,29,30,31,L,H",
      "lose -1,0,1,2,3,4,L,H",
      "put -1,0,1,2,3,4,L,H -1,0,2,3,29,30,L,H -1,0,400,401,L,H",
      "copy -1,0,1,2,3,4 -1,0,1,2,3,4,27,30,31,L,H -1,0,1,2,3,4 -1,0,1,3,4,29,30,31,L,H -1,0,1,2,3,4,30,31,L,H",
      "lead -1,0,1,2,3,4,L,H -2,-1,0,1,2,3,4,L,H",
      "handsOn -1,0,1,2,3,4,L,H -1,0,1,29,30,2000,2001,L,H",
      "decree -1,0,1,2,3,4,L,H -1,0,3,4,L,H -1,0,1,9,10,60,61,100,101,200,201,L,H -1,0,15,16,17,2000,2001,L,H",
      "force -1,0,1,2,3,4,L,H -1,0,1,3,4,L,H -1,0,7,8,99,100,2000,2001,L,H",
      "task -1,0,2,3,L,H -1,0,5,6,L,H -1,0,3,4,L,H -1,0,1,2000,2001,L,H",
      "needs -1,0,2,3,L,H -1,0,5,6,L,H -1,0,5,6,L,H -1,0,1,500,501,L,H",
      "hull -1,0,1,2,3,L,H -1,0,99,100,L,H -1,0,16,2000,2001,L,H",
      "priority -1,0,1,2,3,4,5,15,16,L,H -1,0,30,99,100,L,H",
      "raft -1,0,1,2,3,4,5,6,L,H -1,0,1,690,691,1000,1001,L,H",
      "unraft -1,0,1,2,3,4,5,6,L,H",
      "days -1,0,1,7,344,345,1984,1985,2000,2001,L,H",
      "breakUp -1,0,1,2,3,4,5,15,16,L,H",
      "growth -1,0,1,2,3,L,H -1,0,9,10,L,H",
      "tree -1,0,2,3,L,H -10,-9,0,9,10,L,H -1,0,1,500,501,L,H",
      "part -1,0,1,2,3,L,H -1,0,2,3,L,H -10,-9,9,10,L,H -1,0,9,10,L,H 0,1,500,501,L,H",
      "match -1,0,1,2,3,L,H -1,0,1,2,3,4,5,6,7,8,L,H",
      "fell -1,0,1,2,3,4,5,15,16,L,H",
      "treeFor -1,0,1,2,3,4,5,15,16,L,H -1,0,1,5,6,L,H",
      "treeOf -1,0,1,2,3,4,5,39,40,L,H -1,0,1,2,3,4,5,L,H",
      "count -1,0,1,5,6,L,H -1,0,1,690,1000000,1000001,L,H",
      "gap -1,0,1,2,3,39,40,L,H -1,0,1,2,3,4,L,H",
      "worst -1,0,1,5,6,L,H",
      "ready -1,0,1,2,3,4,5,15,16,L,H",
      "late -1,0,1,2,3,4,5,15,16,L,H",
      "least",
      "order -1,0,1,2,3,4,5,L,H",
      "hullOf -1,0,1,2,3,4,5,15,16,L,H -1,0,1,2,3,4,5,6,7,8,9,L,H",
      "basinOf -1,0,1,2,3,4,5,6,L,H -1,0,1,2,3,L,H",
      "stock -1,0,5,6,L,H",
      "told -1,0,1,2,3,4,5,6,7,8,9,10,11,12,13,14,15,16,17,18,L,H"};
  private static final Settings.Script[] SCRIPTS = {x -> { }, Settings::busy, Settings::full};
  private static final String[] SCRIPT_NAMES = {"new", "busy", "full"};
  /** An object has 512 calls; the scripts and looks use the others. */
  private static final int MOST_REFUSED = 100;
  private static final int MOST_LOOKS = 40;

  private static int wrong = 0;
  private static int tried = 0;

  private final Settings.Script script;
  private final String title;
  private Calls row;
  private Calls plain;
  private int refused;
  private int looks;

  private EdgesAgainstPlainTest(Settings.Script script, String title) {
    this.script = script;
    this.title = title;
  }

  public static void main(String[] args) {
    for (int s = 0; s < SCRIPTS.length; s++) {
      for (String call : CALLS) new EdgesAgainstPlainTest(SCRIPTS[s], SCRIPT_NAMES[s]).run(call.split(" "));
    }
    System.out.println(wrong == 0 ? tried + " calls are as plain ones" : wrong + " calls are not as plain ones");
    if (wrong != 0) System.exit(1);
  }

  private void run(String[] words) {
    int[][] numbers = new int[words.length - 1][];
    int all = 1;
    for (int k = 0; k < numbers.length; k++) {
      numbers[k] = numbersOf(words[k + 1]);
      all *= numbers[k].length;
    }
    begin();
    int[] a = new int[numbers.length];
    for (int at = 0; at < all; at++) {
      int rest = at;
      for (int k = 0; k < a.length; k++) {
        a[k] = numbers[k][rest % numbers[k].length];
        rest /= numbers[k].length;
      }
      check(words[0], a);
    }
  }

  private static int[] numbersOf(String text) {
    String[] words = text.split(",");
    int[] numbers = new int[words.length];
    for (int k = 0; k < words.length; k++) {
      numbers[k] = words[k].equals("L") ? Integer.MIN_VALUE
          : words[k].equals("H") ? Integer.MAX_VALUE : Integer.parseInt(words[k]);
    }
    return numbers;
  }

  private void begin() {
    row = Calls.of(new ArsenalRow());
    plain = new PlainArsenal();
    script.play(row);
    script.play(plain);
    refused = 0;
  }

  private int refusals() {
    int sum = 0;
    for (int what = 11; what <= 17; what++) sum += plain.call("told", what);
    return sum;
  }

  private void check(String name, int[] a) {
    tried++;
    int before = refusals();
    int got = row.call(name, a);
    int want = plain.call(name, a);
    String text = title + ": " + name + Arrays.toString(a);
    need(got == want, text + " answered " + got + ", due is " + want);
    if (refusals() > before) {
      refused++;
      if (refused == MOST_REFUSED) {
        lookAtAll(text);
        begin();
      }
    } else {
      if (looks < MOST_LOOKS) lookAtAll(text);
      looks++;
      begin();
    }
  }

  private void lookAtAll(String text) {
    for (int what = 11; what <= 17; what++) {
      need(row.call("told", what) == plain.call("told", what), text + ": refusals " + what);
    }
    for (Settings.Look look : Settings.LOOKS) {
      need(look.of(row).equals(look.of(plain)), text + ": something else was left behind");
    }
  }

  private static void need(boolean held, String text) {
    if (!held) {
      wrong++;
      System.out.println(text);
    }
  }
}
