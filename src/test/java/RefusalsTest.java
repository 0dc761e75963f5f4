import java.util.List;

/**
 * Of each call the numbers just inside and just outside, which refusal is told where
 * several would fit, and that a refused call changes nothing but how many there were.
 */
public final class RefusalsTest {
  private static final int LOW = Integer.MIN_VALUE;
  private static final int HIGH = Integer.MAX_VALUE;
  private static final int ASIDE = 2000000000;
  private static final Settings.Setting NEW = ArsenalRow::new;
  private static final Settings.Setting BUSY = Settings::busy;
  private static final Settings.Setting FULL = Settings::full;
  private static int wrong = 0;
  private static int tried = 0;

  interface Call {
    int on(ArsenalRow x);
  }

  public static void main(String[] args) {
    hands();
    bring();
    row();
    lose();
    put();
    copy();
    lead();
    handsOn();
    decree();
    force();
    task();
    needs();
    hull();
    priority();
    raft();
    unraft();
    days();
    breakUp();
    growth();
    tree();
    part();
    match();
    fell();
    treeFor();
    treeOf();
    count();
    gap();
    worst();
    ready();
    late();
    leastAndOrder();
    hullOf();
    basinOf();
    stock();
    told();
    refusalsAreCountedByKind();
    System.out.println(wrong == 0 ? tried + " calls at the edges are as due" : wrong + " are not as due");
    if (wrong != 0) System.exit(1);
  }

  private static void need(boolean held, String text) {
    if (!held) {
      wrong++;
      System.out.println(text);
    }
  }

  private static int[] refusalsOf(ArsenalRow x) {
    int[] counted = new int[8];
    for (int k = 1; k <= 7; k++) counted[k] = x.told(10 + k);
    return counted;
  }

  /** The call is refused with a kind (-1 .. -7); all that can be seen stays as without it. */
  private static void refused(String text, Settings.Setting setting, int kind, Call call) {
    refusedAs(text, setting, kind, kind, call);
  }

  private static void refusedAside(String text, Settings.Setting setting, int kind, Call call) {
    refusedAs(text, setting, kind, ASIDE - kind, call);
  }

  private static void refusedAs(String text, Settings.Setting setting, int kind, int want, Call call) {
    tried++;
    for (Settings.Look look : Settings.LOOKS) {
      ArsenalRow x = setting.make();
      int[] before = refusalsOf(x);
      int got = call.on(x);
      int[] after = refusalsOf(x);
      need(got == want, text + ": answered " + got + ", due is " + want);
      for (int k = 1; k <= 7; k++) {
        int more = k == -kind ? 1 : 0;
        need(after[k] - before[k] == more, text + ": refusals -" + k + " are more by " + (after[k] - before[k]));
      }
      List<Integer> seen = look.of(Calls.of(x));
      List<Integer> due = look.of(Calls.of(setting.make()));
      need(seen.equals(due), text + ": something changed: " + seen + ", due is " + due);
    }
  }

  /** The call is answered, and counted as no refusal. */
  private static void answers(String text, Settings.Setting setting, int want, Call call) {
    tried++;
    ArsenalRow x = setting.make();
    int[] before = refusalsOf(x);
    int got = call.on(x);
    int[] after = refusalsOf(x);
    need(got == want, text + ": answered " + got + ", due is " + want);
    for (int k = 1; k <= 7; k++) need(after[k] == before[k], text + ": was counted as refusal -" + k);
  }

  /** 2 */
  private static void hands() {
    answers("2 least craft, least number", BUSY, 10, x -> x.hands(0, 0));
    answers("2 last craft, greatest number", BUSY, 5, x -> x.hands(3, 400));
    for (int craft : new int[] {-1, 4, LOW, HIGH}) {
      refused("2 no such craft", BUSY, -1, x -> x.hands(craft, 1));
      refused("2 -1 ahead of -4", BUSY, -1, x -> x.hands(craft, -1));
      refused("2 -1 ahead of -6", BUSY, -1, x -> x.hands(craft, 401));
    }
    for (int n : new int[] {-1, LOW}) refused("2 below", BUSY, -4, x -> x.hands(0, n));
    for (int n : new int[] {401, HIGH}) refused("2 above", BUSY, -6, x -> x.hands(3, n));
  }

  /** 3 */
  private static void bring() {
    answers("3 nothing", NEW, 0, x -> x.bring(0, 0));
    answers("3 all at once", NEW, 1000000, x -> x.bring(5, 1000000));
    refused("3 one more than all", NEW, -6, x -> x.bring(5, 1000001));
    answers("3 to the greatest", BUSY, 1000000, x -> x.bring(5, 999000));
    refused("3 one more than to the greatest", BUSY, -6, x -> x.bring(5, 999001));
    answers("3 nothing to the greatest", FULL, 1000000, x -> x.bring(2, 0));
    refused("3 one to the greatest", FULL, -6, x -> x.bring(2, 1));
    refused("3 a sum that would wrap around", BUSY, -6, x -> x.bring(0, HIGH));
    refused("3 a sum that would wrap around", FULL, -6, x -> x.bring(0, HIGH));
    for (int n : new int[] {-1, LOW}) {
      refused("3 below", BUSY, -4, x -> x.bring(0, n));
      refused("3 below, of none", NEW, -4, x -> x.bring(5, n));
    }
    for (int good : new int[] {-1, 6, LOW, HIGH}) {
      refused("3 no such good", BUSY, -1, x -> x.bring(good, 1));
      refused("3 -1 ahead of -4", BUSY, -1, x -> x.bring(good, -1));
      refused("3 -1 ahead of -6", BUSY, -1, x -> x.bring(good, 1000001));
    }
  }

  /** 4 */
  private static void row() {
    answers("4 an empty row", BUSY, 0, x -> x.row(0, 0));
    answers("4 the longest row", BUSY, 30, x -> x.row(3, 30));
    for (int r : new int[] {-1, 4, LOW, HIGH}) {
      refused("4 no such roster", BUSY, -1, x -> x.row(r, 3));
      refused("4 -1 ahead of -4", BUSY, -1, x -> x.row(r, -1));
      refused("4 -1 ahead of -6", BUSY, -1, x -> x.row(r, 31));
    }
    for (int r = 0; r < 4; r++) {
      int at = r;
      for (int n : new int[] {-1, LOW}) refused("4 below", BUSY, -4, x -> x.row(at, n));
      for (int n : new int[] {31, HIGH}) refused("4 above", BUSY, -6, x -> x.row(at, n));
    }
  }

  /** 5 */
  private static void lose() {
    answers("5 a missing one", BUSY, 0, x -> x.lose(0));
    answers("5 an empty one", BUSY, 1, x -> x.lose(1));
    answers("5 the last one", BUSY, 1, x -> x.lose(3));
    for (int r : new int[] {-1, 4, LOW, HIGH}) refused("5 no such roster", BUSY, -1, x -> x.lose(r));
  }

  /** 6 */
  private static void put() {
    answers("6 first place, least number", BUSY, 11, x -> x.put(2, 0, 0));
    answers("6 last place, greatest number", BUSY, 13, x -> x.put(2, 2, 400));
    answers("6 place 29", BUSY, 400, x -> x.put(3, 29, 1));
    for (int r : new int[] {-1, 4, LOW, HIGH}) {
      refused("6 no such roster", BUSY, -1, x -> x.put(r, 0, 1));
      refused("6 -1 ahead of -7 and -4", BUSY, -1, x -> x.put(r, -1, -1));
      refused("6 -1 ahead of -7 and -6", BUSY, -1, x -> x.put(r, 30, 401));
    }
    refused("6 missing", BUSY, -5, x -> x.put(0, 0, 1));
    refused("6 -5 ahead of -7", BUSY, -5, x -> x.put(0, -1, 1));
    refused("6 -5 ahead of -4", BUSY, -5, x -> x.put(0, 0, -1));
    refused("6 -5 ahead of -6", BUSY, -5, x -> x.put(0, 0, 401));
    for (int place : new int[] {-1, 3, LOW, HIGH}) {
      refused("6 beyond", BUSY, -7, x -> x.put(2, place, 1));
      refused("6 -7 ahead of -4", BUSY, -7, x -> x.put(2, place, -1));
      refused("6 -7 ahead of -6", BUSY, -7, x -> x.put(2, place, 401));
    }
    refused("6 an empty row has no place", BUSY, -7, x -> x.put(1, 0, 1));
    refused("6 the longest row has no place 30", BUSY, -7, x -> x.put(3, 30, 1));
    for (int n : new int[] {-1, LOW}) refused("6 below", BUSY, -4, x -> x.put(2, 0, n));
    for (int n : new int[] {401, HIGH}) refused("6 above", BUSY, -6, x -> x.put(2, 2, n));
  }

  /** 7 */
  private static void copy() {
    answers("7 all of a row", BUSY, 3, x -> x.copy(2, 0, 3, 27, 3));
    answers("7 all of the longest row over itself", BUSY, 30, x -> x.copy(3, 0, 3, 0, 30));
    answers("7 none, from an empty row to it", BUSY, 0, x -> x.copy(1, 0, 1, 0, 0));
    answers("7 none, at the ends", BUSY, 0, x -> x.copy(2, 3, 3, 30, 0));
    for (int bad : new int[] {-1, 4, LOW, HIGH}) {
      refused("7 no such roster r", BUSY, -1, x -> x.copy(bad, 0, 2, 0, 1));
      refused("7 no such roster s", BUSY, -1, x -> x.copy(2, 0, bad, 0, 1));
      refused("7 -1 (s) ahead of -5 (r)", BUSY, -1, x -> x.copy(0, 0, bad, 0, 1));
      refused("7 -1 (r) ahead of -5 (s)", BUSY, -1, x -> x.copy(bad, 0, 0, 0, 1));
      refused("7 -1 ahead of -7", BUSY, -1, x -> x.copy(2, 9, bad, 9, -1));
    }
    refused("7 r is missing", BUSY, -5, x -> x.copy(0, 0, 2, 0, 1));
    refused("7 s is missing", BUSY, -5, x -> x.copy(2, 0, 0, 0, 1));
    refused("7 both are missing", BUSY, -5, x -> x.copy(0, 0, 0, 0, 0));
    refused("7 -5 (r) ahead of -7", BUSY, -5, x -> x.copy(0, 0, 2, 9, 1));
    refused("7 -5 (s) ahead of -7", BUSY, -5, x -> x.copy(2, 9, 0, 0, 1));
    refused("7 -5 ahead of -7 by n", BUSY, -5, x -> x.copy(2, 0, 0, 0, -1));
    for (int n : new int[] {-1, LOW}) {
      refused("7 n below 0", BUSY, -7, x -> x.copy(2, 1, 3, 1, n));
      refused("7 n below 0, from and to the ends", BUSY, -7, x -> x.copy(2, 3, 3, 30, n));
    }
    refused("7 one more than r has", BUSY, -7, x -> x.copy(2, 1, 3, 0, 3));
    refused("7 one more than s has", BUSY, -7, x -> x.copy(3, 0, 2, 1, 3));
    refused("7 behind the end of r, none", BUSY, -7, x -> x.copy(2, 4, 3, 0, 0));
    refused("7 behind the end of s, none", BUSY, -7, x -> x.copy(3, 0, 2, 4, 0));
    refused("7 one of an empty row", BUSY, -7, x -> x.copy(1, 0, 2, 0, 1));
    refused("7 one to an empty row", BUSY, -7, x -> x.copy(2, 0, 1, 0, 1));
    for (int place : new int[] {-1, LOW}) {
      refused("7 ahead of r", BUSY, -7, x -> x.copy(2, place, 3, 0, 1));
      refused("7 ahead of s", BUSY, -7, x -> x.copy(2, 0, 3, place, 1));
      refused("7 ahead of r, none", BUSY, -7, x -> x.copy(2, place, 3, 0, 0));
      refused("7 ahead of s, none", BUSY, -7, x -> x.copy(2, 0, 3, place, 0));
    }
    for (int n : new int[] {1, 3, HIGH}) {
      refused("7 a sum that would wrap around, r", BUSY, -7, x -> x.copy(2, HIGH, 3, 0, n));
      refused("7 a sum that would wrap around, s", BUSY, -7, x -> x.copy(2, 0, 3, HIGH, n));
    }
    refused("7 more than there can be", BUSY, -7, x -> x.copy(3, 1, 3, 1, HIGH));
    refused("7 all wrong", BUSY, -7, x -> x.copy(3, LOW, 3, LOW, LOW));
  }

  /** 8 */
  private static void lead() {
    answers("8 by none", BUSY, -1, x -> x.lead(0, -1));
    answers("8 by the first", BUSY, -1, x -> x.lead(3, 0));
    answers("8 by the last", BUSY, 2, x -> x.lead(1, 3));
    answers("8 a missing one may lead", BUSY, 2, x -> x.lead(1, 0));
    for (int bad : new int[] {4, LOW, HIGH}) {
      refusedAside("8 no such craft", BUSY, -1, x -> x.lead(bad, 2));
      refusedAside("8 no such craft, by none", BUSY, -1, x -> x.lead(bad, -1));
      refusedAside("8 no such roster", BUSY, -1, x -> x.lead(1, bad));
      refusedAside("8 neither: one refusal", BUSY, -1, x -> x.lead(bad, bad));
    }
    refusedAside("8 no such craft", BUSY, -1, x -> x.lead(-1, 2));
    refusedAside("8 no such roster", BUSY, -1, x -> x.lead(1, -2));
  }

  /** 9 */
  private static void handsOn() {
    answers("9 first day", BUSY, 10, x -> x.handsOn(0, 0));
    answers("9 last day", BUSY, 5, x -> x.handsOn(3, 2000));
    for (int craft : new int[] {-1, 4, LOW, HIGH}) {
      refused("9 no such craft", BUSY, -1, x -> x.handsOn(craft, 0));
      refused("9 -1 ahead of -4", BUSY, -1, x -> x.handsOn(craft, -1));
      refused("9 -1 ahead of -6", BUSY, -1, x -> x.handsOn(craft, 2001));
    }
    for (int day : new int[] {-1, LOW}) refused("9 below", BUSY, -4, x -> x.handsOn(1, day));
    for (int day : new int[] {2001, HIGH}) refused("9 above", BUSY, -6, x -> x.handsOn(1, day));
  }

  /** 10; of the busy object DAY is 16 */
  private static void decree() {
    int[] least = {0, 0, 0, 1};
    int[] most = {100, 9, 60, 200};
    for (int k = 0; k < 4; k++) {
      int kind = k;
      answers("10 least number, now", BUSY, 5, x -> x.decree(kind, 0, least[kind], 16));
      answers("10 greatest number, last day", BUSY, 5, x -> x.decree(kind, 3, most[kind], 2000));
      refused("10 number below", BUSY, -4, x -> x.decree(kind, 0, least[kind] - 1, 16));
      refused("10 number above", BUSY, -6, x -> x.decree(kind, 0, most[kind] + 1, 16));
      refused("10 number far below", BUSY, -4, x -> x.decree(kind, 0, LOW, 16));
      refused("10 number far above", BUSY, -6, x -> x.decree(kind, 0, HIGH, 16));
      refused("10 day ahead of now", BUSY, -4, x -> x.decree(kind, 0, most[kind], 15));
      refused("10 day below 0", BUSY, -4, x -> x.decree(kind, 0, most[kind], LOW));
      refused("10 day above", BUSY, -6, x -> x.decree(kind, 0, least[kind], 2001));
      refused("10 day far above", BUSY, -6, x -> x.decree(kind, 0, least[kind], HIGH));
      refused("10 -4 (day) ahead of -6 (number)", BUSY, -4, x -> x.decree(kind, 0, most[kind] + 1, 15));
      refused("10 -4 (number) ahead of -6 (day)", BUSY, -4, x -> x.decree(kind, 0, least[kind] - 1, 2001));
      refused("10 a 41st", FULL, -6, x -> x.decree(kind, 0, least[kind], 0));
      refused("10 -4 (number) ahead of a 41st", FULL, -4, x -> x.decree(kind, 0, least[kind] - 1, 0));
      refused("10 -4 (day) ahead of a 41st", FULL, -4, x -> x.decree(kind, 0, least[kind], -1));
      for (int craft : new int[] {-1, 4, LOW, HIGH}) {
        refused("10 the craft is asked of all kinds", BUSY, -1, x -> x.decree(kind, craft, 1, 16));
        refused("10 -1 ahead of -4", BUSY, -1, x -> x.decree(kind, craft, least[kind] - 1, 15));
        refused("10 -1 ahead of -6", BUSY, -1, x -> x.decree(kind, craft, most[kind] + 1, 2001));
        refused("10 -1 ahead of a 41st", FULL, -1, x -> x.decree(kind, craft, 1, 0));
      }
    }
    for (int kind : new int[] {-1, 4, LOW, HIGH}) {
      refused("10 no such kind", BUSY, -1, x -> x.decree(kind, 0, 1, 16));
      refused("10 -1 ahead of -4", BUSY, -1, x -> x.decree(kind, 0, -1, 15));
      refused("10 -1 ahead of -6", BUSY, -1, x -> x.decree(kind, 0, 201, 2001));
      refused("10 -1 ahead of a 41st", FULL, -1, x -> x.decree(kind, 0, 1, 0));
    }
    answers("10 the 40th", () -> withDecrees(39), 39, x -> x.decree(0, 0, 1, 0));
    refused("10 a 41st", () -> withDecrees(40), -6, x -> x.decree(0, 0, 1, 0));
  }

  private static ArsenalRow withDecrees(int n) {
    ArsenalRow x = new ArsenalRow();
    for (int k = 0; k < n; k++) x.decree(k % 4, k % 3, 1 + k % 9, 2000 - k);
    return x;
  }

  /** 11 */
  private static void force() {
    answers("11 first day", BUSY, 5, x -> x.force(0, 0, 0));
    answers("11 last day", BUSY, 50, x -> x.force(3, 3, 2000));
    for (int bad : new int[] {-1, 4, LOW, HIGH}) {
      refused("11 no such kind", BUSY, -1, x -> x.force(bad, 0, 0));
      refused("11 -1 ahead of -4", BUSY, -1, x -> x.force(bad, 0, -1));
      refused("11 -1 ahead of -6", BUSY, -1, x -> x.force(bad, 0, 2001));
      for (int k = 0; k < 4; k++) {
        int kind = k;
        refused("11 no such craft", BUSY, -1, x -> x.force(kind, bad, 0));
        refused("11 -1 ahead of -4", BUSY, -1, x -> x.force(kind, bad, -1));
        refused("11 -1 ahead of -6", BUSY, -1, x -> x.force(kind, bad, 2001));
      }
    }
    for (int day : new int[] {-1, LOW}) refused("11 below", BUSY, -4, x -> x.force(0, 0, day));
    for (int day : new int[] {2001, HIGH}) refused("11 above", BUSY, -6, x -> x.force(3, 3, day));
  }

  /** 12 */
  private static void task() {
    answers("12 least", BUSY, 10, x -> x.task(0, 0, 0, 0));
    answers("12 greatest", BUSY, 0, x -> x.task(2, 5, 3, 2000));
    for (int bad : new int[] {-1, LOW, HIGH}) {
      refused("12 no such sort", BUSY, -1, x -> x.task(bad, 0, 0, 1));
      refused("12 no such basin", BUSY, -1, x -> x.task(0, bad, 0, 1));
      refused("12 no such craft", BUSY, -1, x -> x.task(0, 0, bad, 1));
    }
    refused("12 no such sort", BUSY, -1, x -> x.task(3, 0, 0, 1));
    refused("12 no such basin", BUSY, -1, x -> x.task(0, 6, 0, 1));
    refused("12 no such craft", BUSY, -1, x -> x.task(0, 0, 4, 1));
    for (int work : new int[] {-1, 2001}) {
      refused("12 -1 (sort) ahead of the number's", BUSY, -1, x -> x.task(3, 0, 0, work));
      refused("12 -1 (basin) ahead of the number's", BUSY, -1, x -> x.task(0, 6, 0, work));
      refused("12 -1 (craft) ahead of the number's", BUSY, -1, x -> x.task(0, 0, 4, work));
    }
    for (int work : new int[] {-1, LOW}) refused("12 below", BUSY, -4, x -> x.task(2, 0, 1, work));
    for (int work : new int[] {2001, HIGH}) refused("12 above", BUSY, -6, x -> x.task(2, 0, 1, work));
    refusedTaskKeepsItsCraft();
  }

  /** The CRAFT of a TASK can be seen only by whose hands work. */
  private static void refusedTaskKeepsItsCraft() {
    for (int work : new int[] {-1, 2001}) {
      ArsenalRow x = new ArsenalRow();
      x.hands(0, 1);
      x.task(0, 0, 0, 7);
      x.hull(0, 0, 0);
      x.task(0, 0, 1, work);
      need(x.ready(0) == 13, "12 a refused task keeps its craft");
    }
  }

  /** 13 */
  private static void needs() {
    answers("13 least", BUSY, 0, x -> x.needs(0, 0, 0, 0));
    answers("13 greatest", BUSY, 0, x -> x.needs(2, 5, 5, 500));
    for (int bad : new int[] {-1, LOW, HIGH}) {
      refused("13 no such sort", BUSY, -1, x -> x.needs(bad, 0, 0, 1));
      refused("13 no such basin", BUSY, -1, x -> x.needs(0, bad, 0, 1));
      refused("13 no such good", BUSY, -1, x -> x.needs(0, 0, bad, 1));
    }
    refused("13 no such sort", BUSY, -1, x -> x.needs(3, 0, 0, 1));
    refused("13 no such basin", BUSY, -1, x -> x.needs(0, 6, 0, 1));
    refused("13 no such good", BUSY, -1, x -> x.needs(0, 0, 6, 1));
    for (int n : new int[] {-1, 501}) {
      refused("13 -1 (sort) ahead of the number's", BUSY, -1, x -> x.needs(3, 0, 0, n));
      refused("13 -1 (basin) ahead of the number's", BUSY, -1, x -> x.needs(0, 6, 0, n));
      refused("13 -1 (good) ahead of the number's", BUSY, -1, x -> x.needs(0, 0, 6, n));
    }
    for (int n : new int[] {-1, LOW}) refused("13 below", BUSY, -4, x -> x.needs(2, 3, 2, n));
    for (int n : new int[] {501, HIGH}) refused("13 above", BUSY, -6, x -> x.needs(2, 3, 2, n));
  }

  /** 14 */
  private static void hull() {
    answers("14 least", BUSY, 5, x -> x.hull(0, 0, 0));
    answers("14 greatest", BUSY, 5, x -> x.hull(2, 99, 2000));
    answers("14 a due that is past", BUSY, 5, x -> x.hull(1, 50, 15));
    for (int sort : new int[] {-1, 3, LOW, HIGH}) {
      refused("14 no such sort", BUSY, -1, x -> x.hull(sort, 0, 0));
      refused("14 -1 ahead of -4", BUSY, -1, x -> x.hull(sort, -1, -1));
      refused("14 -1 ahead of -6", BUSY, -1, x -> x.hull(sort, 100, 2001));
      refused("14 -1 ahead of a 17th", FULL, -1, x -> x.hull(sort, 0, 0));
    }
    for (int bad : new int[] {-1, LOW}) {
      refused("14 priority below", BUSY, -4, x -> x.hull(0, bad, 0));
      refused("14 due below", BUSY, -4, x -> x.hull(0, 0, bad));
      refused("14 -4 (priority) ahead of -6 (due)", BUSY, -4, x -> x.hull(0, bad, 2001));
      refused("14 -4 (due) ahead of -6 (priority)", BUSY, -4, x -> x.hull(0, 100, bad));
      refused("14 -4 (priority) ahead of a 17th", FULL, -4, x -> x.hull(0, bad, 0));
      refused("14 -4 (due) ahead of a 17th", FULL, -4, x -> x.hull(0, 0, bad));
    }
    refused("14 priority above", BUSY, -6, x -> x.hull(0, 100, 0));
    refused("14 priority far above", BUSY, -6, x -> x.hull(0, HIGH, 0));
    refused("14 due above", BUSY, -6, x -> x.hull(0, 0, 2001));
    refused("14 due far above", BUSY, -6, x -> x.hull(0, 0, HIGH));
    answers("14 the 16th", () -> withHulls(15), 15, x -> x.hull(2, 99, 2000));
    refused("14 a 17th", () -> withHulls(16), -6, x -> x.hull(2, 99, 2000));
    refused("14 a 17th", FULL, -6, x -> x.hull(0, 0, 0));
    refused("14 broken ones count, too", () -> withBrokenHulls(16), -6, x -> x.hull(0, 0, 0));
  }

  private static ArsenalRow withHulls(int n) {
    ArsenalRow x = new ArsenalRow();
    for (int h = 0; h < n; h++) x.hull(h % 3, h, h);
    return x;
  }

  private static ArsenalRow withBrokenHulls(int n) {
    ArsenalRow x = withHulls(n);
    x.days(40);
    for (int h = 0; h < n; h++) x.breakUp(h);
    return x;
  }

  /** 15 */
  private static void priority() {
    answers("15 of one that is in, least", BUSY, 50, x -> x.priority(2, 0));
    answers("15 of one that waits, greatest", BUSY, 30, x -> x.priority(4, 99));
    for (int hull : new int[] {-1, 5, LOW, HIGH}) {
      refused("15 no such hull", BUSY, -1, x -> x.priority(hull, 0));
      refused("15 -1 ahead of -4", BUSY, -1, x -> x.priority(hull, -1));
      refused("15 -1 ahead of -6", BUSY, -1, x -> x.priority(hull, 100));
    }
    refused("15 no hull 16", FULL, -1, x -> x.priority(16, 0));
    for (int h = 0; h < 2; h++) {
      int hull = h;
      refused("15 broken, ready", BUSY, -3, x -> x.priority(hull, 0));
      refused("15 -3 ahead of -4", BUSY, -3, x -> x.priority(hull, -1));
      refused("15 -3 ahead of -6", BUSY, -3, x -> x.priority(hull, 100));
    }
    for (int p : new int[] {-1, LOW}) refused("15 below", BUSY, -4, x -> x.priority(2, p));
    for (int p : new int[] {100, HIGH}) refused("15 above", BUSY, -6, x -> x.priority(4, p));
  }

  /** 16 */
  private static void raft() {
    answers("16 the least", BUSY, 1, x -> x.raft(5, 1));
    answers("16 all there is", BUSY, 1, x -> x.raft(3, 690));
    refused("16 one more than there is", BUSY, -3, x -> x.raft(3, 691));
    answers("16 the greatest", FULL, 1, x -> x.raft(0, 1000));
    refused("16 above", FULL, -6, x -> x.raft(0, 1001));
    refused("16 far above", FULL, -6, x -> x.raft(5, HIGH));
    for (int n : new int[] {0, -1, LOW}) refused("16 below", BUSY, -4, x -> x.raft(5, n));
    for (int basin : new int[] {-1, 6, LOW, HIGH}) {
      refused("16 no such basin", BUSY, -1, x -> x.raft(basin, 1));
      refused("16 -1 ahead of -4", BUSY, -1, x -> x.raft(basin, 0));
      refused("16 -1 ahead of -6", BUSY, -1, x -> x.raft(basin, 1001));
      refused("16 -1 ahead of -3 (stock)", NEW, -1, x -> x.raft(basin, 1));
    }
    for (int basin : new int[] {0, 1, 2, 4}) {
      refused("16 a raft or a hull is there", BUSY, -3, x -> x.raft(basin, 1));
      refused("16 -3 ahead of -4", BUSY, -3, x -> x.raft(basin, 0));
      refused("16 -3 ahead of -6", BUSY, -3, x -> x.raft(basin, 1001));
      refused("16 -3 for both", BUSY, -3, x -> x.raft(basin, 691));
    }
    refused("16 no stock", NEW, -3, x -> x.raft(0, 1));
    refused("16 -4 ahead of -3 (stock)", NEW, -4, x -> x.raft(0, 0));
    refused("16 -6 ahead of -3 (stock)", NEW, -6, x -> x.raft(0, 1001));
  }

  /** 17 */
  private static void unraft() {
    answers("17 the first basin", BUSY, 100, x -> x.unraft(0));
    answers("17 another", BUSY, 50, x -> x.unraft(4));
    for (int basin : new int[] {-1, 6, LOW, HIGH}) refused("17 no such basin", BUSY, -1, x -> x.unraft(basin));
    for (int basin : new int[] {3, 5}) refused("17 it is empty", BUSY, -3, x -> x.unraft(basin));
    for (int basin : new int[] {1, 2}) refused("17 a hull is there", BUSY, -2, x -> x.unraft(basin));
  }

  /** 18; of the busy object DAY is 16 */
  private static void days() {
    answers("18 none", BUSY, 0, x -> x.days(0));
    answers("18 to the last day", BUSY, 0, x -> x.days(1984));
    refused("18 one behind the last day", BUSY, -6, x -> x.days(1985));
    answers("18 all days", NEW, 0, x -> x.days(2000));
    refused("18 one more than all", NEW, -6, x -> x.days(2001));
    for (int n : new int[] {HIGH, HIGH - 16, HIGH - 15}) {
      refused("18 a sum that would wrap around", BUSY, -6, x -> x.days(n));
    }
    for (int n : new int[] {-1, -16, -17, LOW}) refused("18 below", BUSY, -4, x -> x.days(n));
    Settings.Setting atTheEnd = () -> {
      ArsenalRow x = Settings.busy();
      x.days(1984);
      return x;
    };
    answers("18 none on the last day", atTheEnd, 0, x -> x.days(0));
    refused("18 one on the last day", atTheEnd, -6, x -> x.days(1));
    refused("18 below on the last day", atTheEnd, -4, x -> x.days(-1));
  }

  /** 19 */
  private static void breakUp() {
    answers("19 a ready one", BUSY, 3, x -> x.breakUp(1));
    for (int hull : new int[] {-1, 5, 16, LOW, HIGH}) refused("19 no such hull", BUSY, -1, x -> x.breakUp(hull));
    for (int hull : new int[] {0, 2, 3, 4}) {
      refused("19 broken, in, waiting", BUSY, -3, x -> x.breakUp(hull));
    }
  }

  /** 20 */
  private static void growth() {
    answers("20 least", BUSY, 3, x -> x.growth(0, 0));
    answers("20 greatest", BUSY, 9, x -> x.growth(2, 9));
    for (int wood : new int[] {-1, 3, LOW, HIGH}) {
      refused("20 no such wood", BUSY, -1, x -> x.growth(wood, 1));
      refused("20 -1 ahead of -4", BUSY, -1, x -> x.growth(wood, -1));
      refused("20 -1 ahead of -6", BUSY, -1, x -> x.growth(wood, 10));
    }
    for (int n : new int[] {-1, LOW}) refused("20 below", BUSY, -4, x -> x.growth(0, n));
    for (int n : new int[] {10, HIGH}) refused("20 above", BUSY, -6, x -> x.growth(2, n));
  }

  /** 21 */
  private static void tree() {
    answers("21 least", BUSY, 5, x -> x.tree(0, -9, 1));
    answers("21 greatest", BUSY, 5, x -> x.tree(2, 9, 500));
    for (int wood : new int[] {-1, 3, LOW, HIGH}) {
      refused("21 no such wood", BUSY, -1, x -> x.tree(wood, 0, 1));
      refused("21 -1 ahead of -4", BUSY, -1, x -> x.tree(wood, -10, 0));
      refused("21 -1 ahead of -6", BUSY, -1, x -> x.tree(wood, 10, 501));
      refused("21 -1 ahead of a 41st", FULL, -1, x -> x.tree(wood, 0, 1));
    }
    for (int bend : new int[] {-10, LOW}) {
      refused("21 bend below", BUSY, -4, x -> x.tree(0, bend, 1));
      refused("21 -4 (bend) ahead of -6 (girth)", BUSY, -4, x -> x.tree(0, bend, 501));
      refused("21 -4 (bend) ahead of a 41st", FULL, -4, x -> x.tree(0, bend, 1));
    }
    for (int girth : new int[] {0, -1, LOW}) {
      refused("21 girth below", BUSY, -4, x -> x.tree(0, 0, girth));
      refused("21 -4 (girth) ahead of -6 (bend)", BUSY, -4, x -> x.tree(0, 10, girth));
      refused("21 -4 (girth) ahead of a 41st", FULL, -4, x -> x.tree(0, 0, girth));
    }
    for (int bend : new int[] {10, HIGH}) refused("21 bend above", BUSY, -6, x -> x.tree(0, bend, 1));
    for (int girth : new int[] {501, HIGH}) refused("21 girth above", BUSY, -6, x -> x.tree(0, 0, girth));
    answers("21 the 40th", () -> withTrees(39), 39, x -> x.tree(2, 9, 500));
    refused("21 a 41st", () -> withTrees(40), -6, x -> x.tree(2, 9, 500));
    refused("21 a 41st", FULL, -6, x -> x.tree(0, 0, 1));
    refused("21 felled ones count, too", RefusalsTest::withAFelledTree, -6, x -> x.tree(0, 0, 1));
  }

  private static ArsenalRow withTrees(int n) {
    ArsenalRow x = new ArsenalRow();
    for (int t = 0; t < n; t++) x.tree(t % 3, 0, 1 + t);
    return x;
  }

  private static ArsenalRow withAFelledTree() {
    ArsenalRow x = withTrees(40);
    x.part(0, 0, 0, 0, 1);
    x.hull(0, 0, 0);
    x.fell(0);
    return x;
  }

  /** 22 */
  private static void part() {
    answers("22 least", BUSY, 0, x -> x.part(2, 0, -9, 0, 1));
    answers("22 greatest", BUSY, 2, x -> x.part(0, 2, 9, 9, 500));
    for (int bad : new int[] {-1, 3, LOW, HIGH}) {
      refused("22 no such sort", BUSY, -1, x -> x.part(bad, 0, 0, 0, 1));
      refused("22 no such wood", BUSY, -1, x -> x.part(0, bad, 0, 0, 1));
      refused("22 -1 (sort) ahead of -4", BUSY, -1, x -> x.part(bad, 0, -10, -1, 0));
      refused("22 -1 (wood) ahead of -4", BUSY, -1, x -> x.part(0, bad, -10, -1, 0));
      refused("22 -1 (sort) ahead of -6", BUSY, -1, x -> x.part(bad, 0, 10, 10, 501));
      refused("22 -1 (wood) ahead of -6", BUSY, -1, x -> x.part(0, bad, 10, 10, 501));
      refused("22 -1 ahead of a 7th", FULL, -1, x -> x.part(0, bad, 0, 0, 1));
    }
    for (int bend : new int[] {-10, LOW}) {
      refused("22 bend below", BUSY, -4, x -> x.part(1, 0, bend, 0, 1));
      refused("22 -4 (bend) ahead of -6", BUSY, -4, x -> x.part(1, 0, bend, 10, 501));
      refused("22 -4 (bend) ahead of a 7th", FULL, -4, x -> x.part(1, 0, bend, 0, 1));
    }
    for (int span : new int[] {-1, LOW}) {
      refused("22 span below", BUSY, -4, x -> x.part(1, 0, 0, span, 1));
      refused("22 -4 (span) ahead of -6", BUSY, -4, x -> x.part(1, 0, 10, span, 501));
      refused("22 -4 (span) ahead of a 7th", FULL, -4, x -> x.part(1, 0, 0, span, 1));
    }
    for (int girth : new int[] {0, -1, LOW}) {
      refused("22 girth below", BUSY, -4, x -> x.part(1, 0, 0, 0, girth));
      refused("22 -4 (girth) ahead of -6", BUSY, -4, x -> x.part(1, 0, 10, 10, girth));
      refused("22 -4 (girth) ahead of a 7th", FULL, -4, x -> x.part(1, 0, 0, 0, girth));
    }
    for (int bend : new int[] {10, HIGH}) refused("22 bend above", BUSY, -6, x -> x.part(1, 0, bend, 0, 1));
    for (int span : new int[] {10, HIGH}) refused("22 span above", BUSY, -6, x -> x.part(1, 0, 0, span, 1));
    for (int girth : new int[] {501, HIGH}) refused("22 girth above", BUSY, -6, x -> x.part(1, 0, 0, 0, girth));
    for (int s = 0; s < 3; s++) {
      int sort = s;
      answers("22 the 6th", () -> withParts(sort, 5), 5, x -> x.part(sort, 2, 9, 9, 500));
      refused("22 a 7th", () -> withParts(sort, 6), -6, x -> x.part(sort, 2, 9, 9, 500));
      answers("22 the first of another sort", () -> withParts(sort, 6), 0, x -> x.part((sort + 1) % 3, 0, 0, 0, 1));
      refused("22 a 7th of each sort", FULL, -6, x -> x.part(sort, 0, 0, 0, 1));
    }
  }

  private static ArsenalRow withParts(int sort, int n) {
    ArsenalRow x = new ArsenalRow();
    for (int i = 0; i < n; i++) x.part(sort, i % 3, i, i, 1 + i);
    return x;
  }

  /** 23; of the busy object SORTS have 2, 1 and 0 PARTS */
  private static void match() {
    answers("23 the least what", BUSY, 2, x -> x.match(0, 0));
    answers("23 the last part", BUSY, 2, x -> x.match(0, 3));
    answers("23 the last part of six", FULL, 32, x -> x.match(2, 7));
    for (int sort : new int[] {-1, 3, LOW, HIGH}) {
      refused("23 no such sort", BUSY, -1, x -> x.match(sort, 0));
      refused("23 -1 ahead of -2", BUSY, -1, x -> x.match(sort, -1));
      refused("23 -1 ahead of -2 (part)", BUSY, -1, x -> x.match(sort, 9));
    }
    for (int what : new int[] {-1, LOW, HIGH, 8}) {
      refused("23 another what", BUSY, -2, x -> x.match(0, what));
      refused("23 another what", FULL, -2, x -> x.match(0, what));
    }
    refused("23 no such part", BUSY, -2, x -> x.match(0, 4));
    refused("23 no such part", BUSY, -2, x -> x.match(1, 3));
    refused("23 no part at all", BUSY, -2, x -> x.match(2, 2));
    answers("23 no part at all: none is matched", BUSY, 0, x -> x.match(2, 0));
    answers("23 no part at all: no waste", BUSY, 0, x -> x.match(2, 1));
  }

  /** 24 */
  private static void fell() {
    answers("24 of one that is in", BUSY, 1, x -> x.fell(3));
    answers("24 of one that waits, without parts", BUSY, 0, x -> x.fell(4));
    for (int hull : new int[] {-1, 5, 16, LOW, HIGH}) refused("24 no such hull", BUSY, -1, x -> x.fell(hull));
    refused("24 broken", BUSY, -3, x -> x.fell(0));
    refused("24 ready", BUSY, -3, x -> x.fell(1));
    refused("24 it was done", BUSY, -3, x -> x.fell(2));
    Settings.Setting felledForNone = () -> {
      ArsenalRow x = Settings.busy();
      x.fell(4);
      x.part(2, 2, 9, 0, 1);
      return x;
    };
    refused("24 it was done, though no tree was felled", felledForNone, -3, x -> x.fell(4));
  }

  /** 25 */
  private static void treeFor() {
    answers("25 the first part", BUSY, 4, x -> x.treeFor(3, x.fell(3) - 1));
    answers("25 the last part", BUSY, -9, x -> x.treeFor(2, 5));
    answers("25 of a broken one", BUSY, -9, x -> x.treeFor(0, 0));
    answers("25 not felled", BUSY, -9, x -> x.treeFor(4, 0));
    for (int hull : new int[] {-1, 5, 16, LOW, HIGH}) {
      refused("25 no such hull", BUSY, -1, x -> x.treeFor(hull, 0));
      refused("25 -1 ahead of -4", BUSY, -1, x -> x.treeFor(hull, -1));
      refused("25 -1 ahead of -6", BUSY, -1, x -> x.treeFor(hull, 6));
    }
    for (int i : new int[] {-1, LOW}) refused("25 below", BUSY, -4, x -> x.treeFor(2, i));
    for (int i : new int[] {6, HIGH}) refused("25 above", BUSY, -6, x -> x.treeFor(2, i));
  }

  /** 26 */
  private static void treeOf() {
    answers("26 the least what", BUSY, 0, x -> x.treeOf(0, 0));
    answers("26 the greatest what of the last tree", BUSY, 3, x -> x.treeOf(4, 4));
    answers("26 a bend of -9 is no refusal", BUSY, -9, x -> x.treeOf(2, 4));
    answers("26 the 40th", FULL, 0, x -> x.treeOf(39, 0));
    for (int tree : new int[] {-1, 5, 40, LOW, HIGH}) {
      refusedAside("26 no such tree", BUSY, -1, x -> x.treeOf(tree, 0));
      refusedAside("26 -1 ahead of -2", BUSY, -1, x -> x.treeOf(tree, 5));
    }
    refusedAside("26 no tree 40", FULL, -1, x -> x.treeOf(40, 0));
    for (int what : new int[] {-1, 5, LOW, HIGH}) {
      refusedAside("26 another what", BUSY, -2, x -> x.treeOf(0, what));
    }
  }

  /** 27 */
  private static void count() {
    answers("27 none", BUSY, 690, x -> x.count(0, 0));
    answers("27 the greatest", BUSY, 1000 - 1000000, x -> x.count(5, 1000000));
    for (int good : new int[] {-1, 6, LOW, HIGH}) {
      refusedAside("27 no such good", BUSY, -1, x -> x.count(good, 1));
      refusedAside("27 -1 ahead of -4", BUSY, -1, x -> x.count(good, -1));
      refusedAside("27 -1 ahead of -6", BUSY, -1, x -> x.count(good, 1000001));
      refusedAside("27 -1 ahead of a 41st", FULL, -1, x -> x.count(good, 1));
    }
    for (int n : new int[] {-1, LOW}) {
      refusedAside("27 below", BUSY, -4, x -> x.count(0, n));
      refusedAside("27 -4 ahead of a 41st", FULL, -4, x -> x.count(0, n));
    }
    for (int n : new int[] {1000001, HIGH}) refusedAside("27 above", BUSY, -6, x -> x.count(5, n));
    answers("27 the 40th", () -> withInventories(39), 33 - 46, x -> x.count(3, 46));
    refusedAside("27 a 41st", () -> withInventories(40), -6, x -> x.count(3, 46));
    for (int g = 0; g < 6; g++) {
      int good = g;
      refusedAside("27 a 41st, all goods together", FULL, -6, x -> x.count(good, 0));
    }
    refusedAside("27 a 41st that is above", FULL, -6, x -> x.count(0, 1000001));
  }

  private static ArsenalRow withInventories(int n) {
    ArsenalRow x = new ArsenalRow();
    for (int i = 0; i < n; i++) x.count(i % 6, i);
    return x;
  }

  /** 28 */
  private static void gap() {
    answers("28 the least", BUSY, 0, x -> x.gap(0, 0));
    answers("28 the greatest", BUSY, 0, x -> x.gap(2, 3));
    answers("28 the 40th", FULL, 3, x -> x.gap(39, 0));
    for (int i : new int[] {-1, 3, 40, LOW, HIGH}) {
      refusedAside("28 no such one", BUSY, -1, x -> x.gap(i, 0));
      refusedAside("28 -1 ahead of -2", BUSY, -1, x -> x.gap(i, 4));
    }
    refusedAside("28 of none at all", NEW, -1, x -> x.gap(0, 0));
    refusedAside("28 no inventory 40", FULL, -1, x -> x.gap(40, 0));
    for (int what : new int[] {-1, 4, LOW, HIGH}) refusedAside("28 another what", BUSY, -2, x -> x.gap(2, what));
  }

  /** 29 */
  private static void worst() {
    answers("29 the first good", BUSY, 0, x -> x.worst(0));
    answers("29 the last good", BUSY, -9, x -> x.worst(4));
    for (int good : new int[] {-1, 6, LOW, HIGH}) refused("29 no such good", BUSY, -1, x -> x.worst(good));
  }

  /** 30 */
  private static void ready() {
    answers("30 a ready one", BUSY, 8, x -> x.ready(1));
    answers("30 never", BUSY, -9, x -> x.ready(4));
    for (int hull : new int[] {-1, 5, 16, LOW, HIGH}) refused("30 no such hull", BUSY, -1, x -> x.ready(hull));
    refused("30 broken", BUSY, -3, x -> x.ready(0));
    refused("30 none at all", NEW, -1, x -> x.ready(0));
  }

  /** 31 */
  private static void late() {
    answers("31 never", BUSY, 16 + 301 - 20, x -> x.late(2));
    answers("31 not below 0", BUSY, 0, x -> x.late(3));
    for (int hull : new int[] {-1, 5, 16, LOW, HIGH}) refused("31 no such hull", BUSY, -1, x -> x.late(hull));
    refused("31 broken", BUSY, -3, x -> x.late(0));
    refused("31 ready", BUSY, -3, x -> x.late(1));
  }

  /** 32, 33; of the busy object three HULLS are WAITING or IN */
  private static void leastAndOrder() {
    Settings.Setting five = () -> {
      ArsenalRow x = Settings.busy();
      x.hull(0, 0, 0);
      x.hull(0, 0, 0);
      return x;
    };
    Settings.Setting six = () -> {
      ArsenalRow x = five.make();
      x.hull(0, 0, 0);
      return x;
    };
    answers("32 three", BUSY, 297 + 317, ArsenalRow::least);
    answers("32 five", five, 297 + 3 * 317, ArsenalRow::least);
    refused("32 more than five", six, -3, ArsenalRow::least);
    refused("32 more than five", FULL, -3, ArsenalRow::least);
    answers("33 first of three", BUSY, 2, x -> x.order(0));
    answers("33 last of three", BUSY, 4, x -> x.order(2));
    answers("33 behind the last of three", BUSY, -9, x -> x.order(3));
    answers("33 last of five", five, 6, x -> x.order(4));
    for (int i : new int[] {5, HIGH, -1, LOW}) {
      answers("33 there are not so many", five, -9, x -> x.order(i));
      refused("33 -3 ahead of that", six, -3, x -> x.order(i));
    }
    answers("33 of none", NEW, -9, x -> x.order(0));
    refused("33 more than five", six, -3, x -> x.order(0));
    refused("33 more than five", FULL, -3, x -> x.order(5));
  }

  /** 34 */
  private static void hullOf() {
    answers("34 the least", BUSY, 3, x -> x.hullOf(0, 0));
    answers("34 the greatest", BUSY, -9, x -> x.hullOf(4, 8));
    answers("34 the 16th", FULL, 84, x -> x.hullOf(15, 5));
    for (int hull : new int[] {-1, 5, 16, LOW, HIGH}) {
      refused("34 no such hull", BUSY, -1, x -> x.hullOf(hull, 0));
      refused("34 -1 ahead of -2", BUSY, -1, x -> x.hullOf(hull, 9));
    }
    refused("34 no hull 16", FULL, -1, x -> x.hullOf(16, 0));
    for (int what : new int[] {-1, 9, LOW, HIGH}) refused("34 another what", BUSY, -2, x -> x.hullOf(4, what));
  }

  /** 35 */
  private static void basinOf() {
    answers("35 the least", BUSY, 2, x -> x.basinOf(0, 0));
    answers("35 the greatest", BUSY, 0, x -> x.basinOf(5, 2));
    for (int basin : new int[] {-1, 6, LOW, HIGH}) {
      refused("35 no such basin", BUSY, -1, x -> x.basinOf(basin, 0));
      refused("35 -1 ahead of -2", BUSY, -1, x -> x.basinOf(basin, 3));
    }
    for (int what : new int[] {-1, 3, LOW, HIGH}) refused("35 another what", BUSY, -2, x -> x.basinOf(0, what));
  }

  /** 36 */
  private static void stock() {
    answers("36 the least", BUSY, 690, x -> x.stock(0));
    answers("36 the greatest", BUSY, 1000, x -> x.stock(5));
    for (int good : new int[] {-1, 6, LOW, HIGH}) refused("36 no such good", BUSY, -1, x -> x.stock(good));
  }

  /** 37: another what is answered with -9, which is no refusal */
  private static void told() {
    answers("37 the least", BUSY, 16, x -> x.told(0));
    answers("37 inventories", BUSY, 3, x -> x.told(8));
    for (int what : new int[] {-1, 9, 10, 18, LOW, HIGH}) answers("37 another", BUSY, -9, x -> x.told(what));
  }

  /** Each refusal is counted once, with its own kind, also those told as 2000000001 and on. */
  private static void refusalsAreCountedByKind() {
    ArsenalRow x = new ArsenalRow();
    Call[] calls = {
        y -> y.lead(4, 0), y -> y.match(0, 2), y -> y.unraft(0), y -> y.count(0, -1), y -> y.put(0, 0, 0),
        y -> y.count(0, 1000001), y -> y.put(1, 1, 0)};
    x.row(1, 1);
    for (int times = 1; times <= 3; times++) {
      for (int k = 0; k < calls.length; k++) {
        calls[k].on(x);
        for (int other = 0; other < calls.length; other++) {
          int want = other <= k ? times : times - 1;
          need(x.told(11 + other) == want, "37 refusals -" + (other + 1) + " after " + times + " times, " + k);
        }
      }
    }
    ArsenalRow y = new ArsenalRow();
    for (int call = 0; call < 511; call++) y.stock(6);
    need(y.told(11) == 511, "37 as many refusals as there may be calls");
  }
}
