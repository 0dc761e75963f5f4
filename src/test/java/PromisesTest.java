/** For each promise ordinary calls, the edges that the document names, and wrong calls. */
public final class PromisesTest {
  private static final int LOW = Integer.MIN_VALUE;
  private static final int HIGH = Integer.MAX_VALUE;
  private static int wrong = 0;

  private static void due(String call, int got, int want) {
    if (got != want) {
      wrong++;
      System.out.println(call + " answered " + got + ", due is " + want);
    }
  }

  public static void main(String[] args) {
    newObject();
    hands();
    bring();
    row();
    lose();
    put();
    copy();
    lead();
    handsOn();
    decree();
    force();
    task();
    needs();
    hull();
    priority();
    raft();
    unraft();
    days();
    moving();
    goodsByPriority();
    workByPriority();
    feastsAndPay();
    breakUp();
    growth();
    tree();
    part();
    match();
    fell();
    treeFor();
    treeOf();
    count();
    gap();
    worst();
    ready();
    readyOfFewHands();
    askedAgain();
    late();
    least();
    order();
    hullOf();
    basinOf();
    stock();
    told();
    full();
    System.out.println(wrong == 0 ? "all promises hold" : wrong + " answers are not as due");
    if (wrong != 0) System.exit(1);
  }

  /** 1 */
  private static void newObject() {
    ArsenalRow x = new ArsenalRow();
    for (int what = -1; what <= 18; what++) {
      boolean known = what >= 0 && what <= 8 || what >= 11 && what <= 17;
      due("1 told(" + what + ")", x.told(what), known ? 0 : -9);
    }
    for (int g = 0; g < 6; g++) due("1 stock", x.stock(g), 0);
    for (int b = 0; b < 6; b++) {
      due("1 basinOf 0", x.basinOf(b, 0), 0);
      due("1 basinOf 1", x.basinOf(b, 1), -9);
      due("1 basinOf 2", x.basinOf(b, 2), 0);
    }
    for (int c = 0; c < 4; c++) due("1 handsOn", x.handsOn(c, 0), 0);
    due("1 force wage", x.force(0, 0, 0), 0);
    due("1 force wine", x.force(1, 3, 0), 0);
    due("1 force feast", x.force(2, 0, 2000), 0);
    due("1 force crowd", x.force(3, 0, 2000), 60);
    due("1 least", x.least(), 0);
  }

  /** 2 */
  private static void hands() {
    ArsenalRow x = new ArsenalRow();
    due("2 first", x.hands(3, 400), 0);
    due("2 what was told", x.hands(3, 0), 400);
    due("2 again", x.hands(3, 7), 0);
    due("2 above", x.hands(3, 401), -6);
    due("2 below", x.hands(3, -1), -4);
    due("2 nobody", x.hands(4, -1), -1);
    due("2 nobody", x.hands(-1, 401), -1);
    due("2 far", x.hands(0, LOW), -4);
    due("2 far", x.hands(0, HIGH), -6);
    due("2 stands", x.handsOn(3, 0), 7);
  }

  /** 3 */
  private static void bring() {
    ArsenalRow x = new ArsenalRow();
    due("3 none", x.bring(0, 0), 0);
    due("3 some", x.bring(0, 999999), 999999);
    due("3 above", x.bring(0, 2), -6);
    due("3 wrap", x.bring(0, HIGH), -6);
    due("3 edge", x.bring(0, 1), 1000000);
    due("3 full", x.bring(0, 0), 1000000);
    due("3 below", x.bring(0, -1), -4);
    due("3 nobody", x.bring(-1, -1), -1);
    due("3 nobody", x.bring(6, 0), -1);
    due("3 the others", x.stock(1), 0);
  }

  /** 4 */
  private static void row() {
    ArsenalRow x = new ArsenalRow();
    due("4 row", x.row(0, 30), 30);
    due("4 put", x.put(0, 29, 5), 0);
    due("4 again", x.row(0, 30), 30);
    due("4 numbers are 0", x.put(0, 29, 6), 0);
    due("4 shorter", x.row(0, 1), 1);
    due("4 beyond", x.put(0, 1, 6), -7);
    due("4 longer", x.row(0, 30), 30);
    due("4 numbers are 0", x.put(0, 29, 6), 0);
    due("4 empty", x.row(3, 0), 0);
    due("4 empty isn't missing", x.lose(3), 1);
    due("4 below", x.row(0, -1), -4);
    due("4 above", x.row(0, 31), -6);
    due("4 nobody", x.row(4, 31), -1);
    due("4 nobody", x.row(-1, -1), -1);
    due("4 nothing changed", x.put(0, 29, 0), 6);
  }

  /** 5 */
  private static void lose() {
    ArsenalRow x = new ArsenalRow();
    due("5 was missing", x.lose(2), 0);
    x.row(2, 4);
    due("5 lost", x.lose(2), 1);
    due("5 was missing", x.lose(2), 0);
    due("5 put", x.put(2, 0, 1), -5);
    due("5 nobody", x.lose(4), -1);
    due("5 nobody", x.lose(-1), -1);
  }

  /** 6 */
  private static void put() {
    ArsenalRow x = new ArsenalRow();
    due("6 nobody", x.put(4, -1, -1), -1);
    due("6 missing", x.put(0, -1, -1), -5);
    x.row(0, 2);
    due("6 beyond ahead of below", x.put(0, 2, -1), -7);
    due("6 beyond", x.put(0, -1, 401), -7);
    due("6 below", x.put(0, 1, -1), -4);
    due("6 above", x.put(0, 1, 401), -6);
    due("6 put", x.put(0, 1, 400), 0);
    due("6 was", x.put(0, 1, 0), 400);
    due("6 far", x.put(0, HIGH, 0), -7);
  }

  /** 7 */
  private static void copy() {
    ArsenalRow x = new ArsenalRow();
    due("7 nobody", x.copy(0, 0, 4, 0, 0), -1);
    due("7 nobody", x.copy(-1, 0, 1, 0, 0), -1);
    due("7 missing", x.copy(0, -1, 0, 0, 0), -5);
    x.row(0, 5);
    due("7 missing", x.copy(0, 0, 1, 0, -1), -5);
    for (int i = 0; i < 5; i++) x.put(0, i, i + 1);
    due("7 forth over itself", x.copy(0, 0, 0, 1, 4), 4);
    int[] want = {1, 1, 2, 3, 4};
    for (int i = 0; i < 5; i++) due("7 place " + i, x.put(0, i, i + 1), want[i]);
    due("7 back over itself", x.copy(0, 1, 0, 0, 4), 4);
    int[] next = {2, 3, 4, 5, 5};
    for (int i = 0; i < 5; i++) due("7 place " + i, x.put(0, i, next[i]), next[i]);
    x.row(1, 2);
    due("7 to another", x.copy(0, 3, 1, 0, 2), 2);
    due("7 there", x.put(1, 1, 0), 5);
    due("7 none at the end", x.copy(0, 5, 1, 2, 0), 0);
    due("7 beyond", x.copy(0, 6, 1, 0, 0), -7);
    due("7 beyond", x.copy(0, 0, 1, 3, 0), -7);
    due("7 beyond", x.copy(0, 4, 1, 0, 2), -7);
    due("7 beyond", x.copy(0, 0, 1, 1, 2), -7);
    due("7 below", x.copy(0, 1, 1, 1, -1), -7);
    due("7 below", x.copy(0, -1, 1, 0, 1), -7);
    due("7 below", x.copy(0, 0, 1, -1, 1), -7);
    due("7 wrap", x.copy(0, HIGH, 1, 0, HIGH), -7);
    due("7 wrap", x.copy(0, 1, 1, 1, HIGH), -7);
    due("7 wrap", x.copy(0, LOW, 1, LOW, LOW), -7);
  }

  /** 8 */
  private static void lead() {
    ArsenalRow x = new ArsenalRow();
    due("8 none", x.lead(2, 3), -1);
    due("8 was", x.lead(2, 0), 3);
    due("8 nobody", x.lead(2, 4), 2000000001);
    due("8 nobody", x.lead(2, -2), 2000000001);
    due("8 nobody", x.lead(4, 0), 2000000001);
    due("8 nobody", x.lead(-1, -1), 2000000001);
    due("8 was", x.lead(2, -1), 0);
    due("8 by none", x.lead(2, -1), -1);
    due("8 refusals", x.told(11), 4);
  }

  /** 9 */
  private static void handsOn() {
    ArsenalRow x = new ArsenalRow();
    x.hands(1, 9);
    x.lead(1, 2);
    due("9 missing", x.handsOn(1, 5), 9);
    x.row(2, 0);
    due("9 empty", x.handsOn(1, 5), 9);
    x.row(2, 3);
    x.put(2, 2, 33);
    due("9 place", x.handsOn(1, 5), 33);
    due("9 place", x.handsOn(1, 0), 0);
    due("9 last", x.handsOn(1, 2000), 33);
    due("9 told", x.hands(1, 8), 9);
    due("9 above", x.handsOn(1, 2001), -6);
    due("9 below", x.handsOn(1, -1), -4);
    due("9 nobody", x.handsOn(4, -1), -1);
    x.lead(1, -1);
    due("9 not led", x.handsOn(1, 5), 8);
  }

  /** 10 */
  private static void decree() {
    ArsenalRow x = new ArsenalRow();
    due("10 nobody kind", x.decree(4, 0, -1, 0), -1);
    due("10 nobody kind", x.decree(-1, 0, 0, 0), -1);
    due("10 nobody craft", x.decree(2, 4, 1, 0), -1);
    due("10 nobody craft", x.decree(3, -1, 1, 0), -1);
    int[] low = {0, 0, 0, 1};
    int[] high = {100, 9, 60, 200};
    for (int k = 0; k < 4; k++) {
      due("10 below " + k, x.decree(k, 0, low[k] - 1, 2001), -4);
      due("10 above " + k, x.decree(k, 0, high[k] + 1, 0), -6);
      due("10 least " + k, x.decree(k, 0, low[k], 2000), 2 * k);
      due("10 most " + k, x.decree(k, 0, high[k], 0), 2 * k + 1);
    }
    due("10 day", x.decree(0, 0, 1, 2001), -6);
    due("10 day", x.decree(0, 0, 101, -1), -4);
    x.days(3);
    due("10 ahead of now", x.decree(0, 0, 1, 2), -4);
    due("10 now", x.decree(0, 0, 1, 3), 8);
    for (int i = 9; i < 40; i++) due("10 number", x.decree(0, 0, 1, 3), i);
    due("10 no room", x.decree(0, 0, 1, 3), -6);
    due("10 below ahead of no room", x.decree(0, 0, -1, 3), -4);
    due("10 how many", x.told(7), 40);
    due("10 all are in force", x.force(0, 0, 2000), 0);
    due("10 all but four", x.force(0, 0, 1999), 1);
  }

  /** 11 */
  private static void force() {
    ArsenalRow x = new ArsenalRow();
    x.decree(0, 1, 30, 20);
    x.decree(0, 1, 10, 10);
    x.decree(0, 1, 11, 10);
    x.decree(0, 2, 99, 5);
    x.decree(3, 0, 7, 15);
    x.decree(2, 3, 4, 12);
    x.decree(1, 1, 9, 1);
    due("11 without", x.force(0, 1, 9), 0);
    due("11 told last", x.force(0, 1, 10), 11);
    due("11 still", x.force(0, 1, 19), 11);
    due("11 latest day, though told first", x.force(0, 1, 20), 30);
    due("11 to the end", x.force(0, 1, 2000), 30);
    due("11 of another craft", x.force(0, 2, 20), 99);
    due("11 of none", x.force(0, 0, 20), 0);
    due("11 crowd without", x.force(3, 2, 14), 60);
    due("11 crowd of any craft", x.force(3, 2, 15), 7);
    due("11 feast of any craft", x.force(2, 0, 12), 4);
    due("11 feast without", x.force(2, 3, 11), 0);
    due("11 wine", x.force(1, 1, 1), 9);
    due("11 wine of another", x.force(1, 0, 1), 0);
    due("11 nobody", x.force(4, 0, -1), -1);
    due("11 nobody", x.force(3, 4, 2001), -1);
    due("11 below", x.force(0, 0, -1), -4);
    due("11 above", x.force(0, 0, 2001), -6);
  }

  /** 12 */
  private static void task() {
    ArsenalRow x = new ArsenalRow();
    due("12 first", x.task(2, 5, 3, 2000), 0);
    due("12 was", x.task(2, 5, 3, 0), 2000);
    due("12 another", x.task(2, 4, 3, 1), 0);
    due("12 nobody", x.task(3, 0, 0, -1), -1);
    due("12 nobody", x.task(0, 6, 0, 2001), -1);
    due("12 nobody", x.task(0, 0, 4, 0), -1);
    due("12 nobody", x.task(-1, -1, -1, 0), -1);
    due("12 below", x.task(0, 0, 0, -1), -4);
    due("12 above", x.task(0, 0, 0, 2001), -6);
    due("12 unchanged", x.task(0, 0, 0, 1), 0);
  }

  /** 13 */
  private static void needs() {
    ArsenalRow x = new ArsenalRow();
    due("13 first", x.needs(2, 5, 5, 500), 0);
    due("13 was", x.needs(2, 5, 5, 1), 500);
    due("13 another", x.needs(2, 5, 4, 1), 0);
    due("13 another", x.needs(1, 5, 5, 1), 0);
    due("13 another", x.needs(2, 4, 5, 1), 0);
    due("13 nobody", x.needs(3, 0, 0, -1), -1);
    due("13 nobody", x.needs(0, 6, 0, 501), -1);
    due("13 nobody", x.needs(0, 0, 6, 0), -1);
    due("13 nobody", x.needs(0, 0, -1, 0), -1);
    due("13 below", x.needs(2, 5, 5, -1), -4);
    due("13 above", x.needs(2, 5, 5, 501), -6);
    due("13 unchanged", x.needs(2, 5, 5, 0), 1);
  }

  /** 14 */
  private static void hull() {
    ArsenalRow x = new ArsenalRow();
    due("14 first", x.hull(2, 99, 2000), 0);
    due("14 second", x.hull(0, 0, 0), 1);
    due("14 nobody", x.hull(3, -1, -1), -1);
    due("14 nobody", x.hull(-1, 100, 2001), -1);
    due("14 below", x.hull(0, -1, 2001), -4);
    due("14 below", x.hull(0, 100, -1), -4);
    due("14 above", x.hull(0, 100, 0), -6);
    due("14 above", x.hull(0, 0, 2001), -6);
    for (int h = 2; h < 16; h++) due("14 number", x.hull(0, 0, 0), h);
    due("14 no room", x.hull(0, 0, 0), -6);
    due("14 below ahead of no room", x.hull(0, 0, -1), -4);
    due("14 how many", x.told(1), 16);
    due("14 waits", x.hullOf(15, 0), 0);
  }

  /** 15 */
  private static void priority() {
    ArsenalRow x = new ArsenalRow();
    x.hull(0, 5, 0);
    due("15 was", x.priority(0, 99), 5);
    due("15 was", x.priority(0, 0), 99);
    due("15 nobody", x.priority(1, -1), -1);
    due("15 nobody", x.priority(-1, 0), -1);
    due("15 below", x.priority(0, -1), -4);
    due("15 above", x.priority(0, 100), -6);
    x.days(1);
    due("15 in a basin", x.priority(0, 7), 0);
    x.days(6);
    due("15 ready", x.priority(0, -1), -3);
    x.breakUp(0);
    due("15 broken", x.priority(0, 100), -3);
    due("15 stays", x.hullOf(0, 5), 7);
  }

  /** 16 */
  private static void raft() {
    ArsenalRow x = new ArsenalRow();
    x.bring(0, 1500);
    due("16 comes", x.raft(5, 1000), 1);
    due("16 stock", x.stock(0), 500);
    due("16 not empty", x.raft(5, 0), -3);
    due("16 nobody", x.raft(6, 0), -1);
    due("16 nobody", x.raft(-1, 1), -1);
    due("16 below", x.raft(4, 0), -4);
    due("16 above", x.raft(4, 1001), -6);
    due("16 lacks", x.raft(4, 501), -3);
    due("16 all of it", x.raft(4, 500), 1);
    due("16 stock", x.stock(0), 0);
    x.hull(0, 0, 0);
    x.days(1);
    due("16 a hull is there", x.raft(0, 1001), -3);
    due("16 refusals", x.told(13), 3);
  }

  /** 17 */
  private static void unraft() {
    ArsenalRow x = new ArsenalRow();
    x.bring(0, 1000000);
    due("17 empty", x.unraft(2), -3);
    due("17 nobody", x.unraft(6), -1);
    due("17 nobody", x.unraft(-1), -1);
    x.raft(2, 300);
    x.bring(0, 200);
    due("17 had", x.unraft(2), 300);
    due("17 stock to the greatest", x.stock(0), 1000000);
    due("17 gone", x.basinOf(2, 0), 0);
    due("17 no planks", x.basinOf(2, 2), 0);
    x.hull(0, 0, 0);
    x.days(1);
    due("17 a hull is there", x.unraft(0), -2);
  }

  /** 18: the counter of DAYS */
  private static void days() {
    ArsenalRow x = new ArsenalRow();
    due("18 none", x.days(0), 0);
    due("18 below", x.days(-1), -4);
    due("18 below", x.days(LOW), -4);
    due("18 above", x.days(2001), -6);
    due("18 above", x.days(HIGH), -6);
    due("18 day", x.told(0), 0);
    x.hull(0, 0, 0);
    x.hull(0, 0, 0);
    due("18 ready ones", x.days(8), 2);
    due("18 first", x.hullOf(0, 8), 7);
    due("18 second", x.hullOf(1, 8), 8);
    due("18 above", x.days(1993), -6);
    due("18 to the last", x.days(1992), 0);
    due("18 day", x.told(0), 2000);
    due("18 above", x.days(1), -6);
    due("18 none", x.days(0), 0);
  }

  /** 18: HULLS go on, a RAFT stops them, a TASK is as told when the HULL comes in */
  private static void moving() {
    ArsenalRow x = new ArsenalRow();
    x.hands(0, 10);
    x.hands(1, 10);
    x.task(0, 0, 0, 15);
    x.hull(0, 3, 0);
    x.hull(0, 4, 0);
    x.hull(0, 4, 0);
    x.days(1);
    due("18 the greater priority first, then numbers", x.basinOf(0, 1), 1);
    due("18 work", x.hullOf(1, 2), 5);
    x.task(0, 0, 1, 100);
    x.days(1);
    due("18 as told when it came", x.hullOf(1, 2), 0);
    x.bring(0, 1);
    x.raft(1, 1);
    x.days(2);
    due("18 the raft is in the way", x.hullOf(1, 1), 0);
    x.unraft(1);
    x.days(1);
    due("18 on", x.hullOf(1, 1), 1);
    due("18 the next comes in the same day", x.basinOf(0, 1), 2);
    due("18 as told now", x.hullOf(2, 2), 90);
    due("18 waits", x.hullOf(0, 0), 0);
  }

  /** 18: GOODS are taken whole, the first HULLS first */
  private static void goodsByPriority() {
    ArsenalRow x = new ArsenalRow();
    x.needs(0, 1, 2, 10);
    x.needs(0, 1, 3, 4);
    x.needs(1, 0, 2, 8);
    x.hull(0, 1, 0);
    x.hull(1, 9, 0);
    x.priority(1, 0);
    x.days(1);
    x.bring(2, 12);
    x.bring(3, 3);
    x.days(1);
    due("18 nothing is taken if one lacks", x.hullOf(0, 3), 0);
    due("18 lack", x.hullOf(0, 4), 1);
    due("18 the other takes", x.hullOf(1, 3), 1);
    due("18 stock", x.stock(2), 4);
    due("18 stock", x.stock(3), 3);
    x.bring(2, 6);
    x.bring(3, 1);
    x.days(1);
    due("18 taken", x.hullOf(0, 3), 1);
    due("18 lack stays", x.hullOf(0, 4), 1);
    due("18 stock", x.stock(2), 0);
    due("18 stock", x.stock(3), 0);

    ArsenalRow y = new ArsenalRow();
    y.needs(0, 1, 2, 10);
    y.needs(1, 0, 2, 8);
    y.hull(0, 1, 0);
    y.hull(1, 0, 0);
    y.days(2);
    due("18 lack", y.hullOf(0, 4), 1);
    due("18 lack", y.hullOf(1, 4), 1);
    y.priority(1, 2);
    y.bring(2, 10);
    y.days(1);
    due("18 the greater priority takes first", y.hullOf(1, 3), 1);
    due("18 the other lacks", y.hullOf(0, 4), 2);
  }

  /** 18: hands go to the first HULLS first, as CROWD lets */
  private static void workByPriority() {
    ArsenalRow x = new ArsenalRow();
    x.hands(2, 100);
    x.task(0, 1, 2, 90);
    x.task(1, 0, 2, 90);
    x.hull(0, 9, 0);
    x.hull(1, 5, 0);
    x.days(2);
    due("18 crowd", x.hullOf(0, 2), 30);
    due("18 the rest", x.hullOf(1, 2), 50);
    due("18 idle", x.told(6), 100);
    x.priority(1, 9);
    x.decree(3, 1, 40, 3);
    x.days(1);
    due("18 by numbers", x.hullOf(0, 2), 0);
    due("18 crowd by decree", x.hullOf(1, 2), 10);
    due("18 idle", x.told(6), 130);
    x.days(1);
    due("18 on", x.hullOf(0, 1), 2);
    due("18 done", x.hullOf(1, 2), 0);
    due("18 idle", x.told(6), 220);
  }

  /** 18: FEASTS, PAY and WINE */
  private static void feastsAndPay() {
    ArsenalRow x = new ArsenalRow();
    x.hands(0, 10);
    x.hands(3, 5);
    x.decree(0, 0, 3, 0);
    x.decree(0, 3, 100, 2);
    x.decree(1, 0, 2, 0);
    x.decree(1, 3, 9, 3);
    x.decree(2, 0, 2, 0);
    x.decree(2, 0, 0, 5);
    x.bring(5, 100);
    x.task(0, 0, 0, 45);
    x.hull(0, 0, 0);
    x.days(1);
    due("18 work", x.hullOf(0, 2), 35);
    due("18 paid", x.told(4), 30);
    due("18 idle", x.told(6), 5);
    due("18 wine", x.stock(5), 80);
    x.days(1);
    due("18 feast", x.hullOf(0, 2), 35);
    due("18 paid on a feast, too", x.told(4), 30 + 530);
    due("18 all are idle", x.told(6), 20);
    due("18 wine", x.stock(5), 60);
    x.days(1);
    due("18 wine of both", x.stock(5), 0);
    due("18 dry", x.told(5), 5);
    x.days(1);
    due("18 feast", x.hullOf(0, 2), 25);
    due("18 dry", x.told(5), 70);
    x.days(2);
    due("18 no feasts from day 5 on", x.hullOf(0, 2), 5);

    ArsenalRow y = new ArsenalRow();
    y.hands(0, 10);
    y.decree(1, 0, 9, 0);
    y.needs(0, 0, 5, 50);
    y.bring(5, 50);
    y.hull(0, 0, 0);
    y.days(1);
    due("18 goods ahead of pay", y.hullOf(0, 3), 1);
    due("18 dry", y.told(5), 90);
  }

  /** 19 */
  private static void breakUp() {
    ArsenalRow x = new ArsenalRow();
    x.bring(1, 9);
    x.bring(2, 1000000);
    x.needs(0, 0, 1, 3);
    x.needs(0, 5, 1, 6);
    x.needs(0, 3, 2, 500);
    x.hull(0, 0, 0);
    due("19 waits", x.breakUp(0), -3);
    x.days(1);
    due("19 is in", x.breakUp(0), -3);
    x.needs(0, 0, 1, 400);
    x.days(6);
    due("19 nobody", x.breakUp(1), -1);
    due("19 nobody", x.breakUp(-1), -1);
    x.bring(2, 350);
    due("19 came, 4 and to the greatest", x.breakUp(0), 4 + 150);
    due("19 stock", x.stock(1), 4);
    due("19 stock", x.stock(2), 1000000);
    due("19 broken", x.hullOf(0, 0), 3);
    due("19 once", x.breakUp(0), -3);
    due("19 no hull's", x.told(2), 0);
  }

  /** 20 */
  private static void growth() {
    ArsenalRow x = new ArsenalRow();
    due("20 first", x.growth(2, 9), 0);
    due("20 was", x.growth(2, 8), 9);
    due("20 below", x.growth(2, -1), -4);
    due("20 above", x.growth(2, 10), -6);
    due("20 nobody", x.growth(3, -1), -1);
    due("20 nobody", x.growth(-1, 10), -1);
    x.tree(2, 0, 500);
    x.tree(1, 0, 500);
    x.part(0, 2, 0, 0, 500);
    x.days(359);
    due("20 not yet", x.treeOf(0, 1), 500);
    x.days(1);
    due("20 a year", x.treeOf(0, 1), 508);
    due("20 of another wood", x.treeOf(1, 1), 500);
    x.hull(0, 0, 0);
    x.days(360);
    due("20 two years", x.treeOf(0, 1), 516);
    x.hull(0, 0, 0);
    due("20 felled", x.fell(1), 1);
    x.days(360);
    due("20 felled ones don't grow", x.treeOf(0, 1), 516);
  }

  /** 21 */
  private static void tree() {
    ArsenalRow x = new ArsenalRow();
    due("21 nobody", x.tree(3, -10, 0), -1);
    due("21 nobody", x.tree(-1, 0, 1), -1);
    due("21 below", x.tree(0, -10, 501), -4);
    due("21 below", x.tree(0, 10, 0), -4);
    due("21 above", x.tree(0, 10, 1), -6);
    due("21 above", x.tree(0, 0, 501), -6);
    due("21 first", x.tree(0, -9, 1), 0);
    due("21 second", x.tree(2, 9, 500), 1);
    for (int t = 2; t < 40; t++) due("21 number", x.tree(0, 0, 9), t);
    due("21 no room", x.tree(0, 0, 9), -6);
    due("21 below ahead of no room", x.tree(0, 0, 0), -4);
    due("21 stand", x.told(3), 40);
  }

  /** 22 */
  private static void part() {
    ArsenalRow x = new ArsenalRow();
    due("22 nobody", x.part(3, 0, -10, -1, 0), -1);
    due("22 nobody", x.part(0, 3, 0, 0, 1), -1);
    due("22 nobody", x.part(0, -1, 0, 0, 1), -1);
    due("22 below", x.part(0, 0, -10, 10, 501), -4);
    due("22 below", x.part(0, 0, 10, -1, 501), -4);
    due("22 below", x.part(0, 0, 10, 10, 0), -4);
    due("22 above", x.part(0, 0, 10, 0, 1), -6);
    due("22 above", x.part(0, 0, 0, 10, 1), -6);
    due("22 above", x.part(0, 0, 0, 0, 501), -6);
    due("22 first", x.part(0, 0, -9, 0, 1), 0);
    for (int i = 1; i < 6; i++) due("22 number", x.part(0, 2, 9, 9, 500), i);
    due("22 no room", x.part(0, 0, 0, 0, 1), -6);
    due("22 of another sort", x.part(1, 0, 0, 0, 1), 0);
  }

  /** 23 */
  private static void match() {
    ArsenalRow x = new ArsenalRow();
    due("23 nobody", x.match(3, -1), -1);
    due("23 no parts", x.match(0, 0), 0);
    due("23 no waste", x.match(0, 1), 0);
    due("23 no such part", x.match(0, 2), -2);
    due("23 other", x.match(0, -1), -2);
    x.part(0, 0, 0, 3, 10);
    x.part(0, 0, 2, 1, 10);
    due("23 none", x.match(0, 2), -9);
    x.tree(0, 1, 12);
    x.tree(0, -4, 10);
    x.tree(1, 0, 10);
    x.tree(0, 0, 9);
    due("23 one for two", x.match(0, 0), 1);
    due("23 the first part has it", x.match(0, 2), 0);
    due("23 none behind all", x.match(0, 3), -9);
    x.tree(0, -3, 40);
    due("23 as many as can be, though it wastes", x.match(0, 0), 2);
    due("23 waste", x.match(0, 1), 32);
    due("23 part 0", x.match(0, 2), 4);
    due("23 part 1", x.match(0, 3), 0);
    x.tree(0, 1, 12);
    due("23 less waste", x.match(0, 1), 4);
    due("23 the first by parts", x.match(0, 2), 0);
    due("23 the first by parts", x.match(0, 3), 5);
    x.tree(0, 3, 11);
    due("23 less waste", x.match(0, 1), 3);
    due("23 part 1", x.match(0, 3), 6);
    due("23 no such part", x.match(0, 4), -2);
    due("23 far", x.match(0, HIGH), -2);
    manyTrees();
  }

  private static void manyTrees() {
    ArsenalRow x = new ArsenalRow();
    for (int i = 0; i < 6; i++) x.part(2, 1, 0, 9, 20 - i);
    for (int t = 0; t < 40; t++) x.tree(1, t % 9, 15 + (39 - t));
    due("23 six", x.match(2, 0), 6);
    due("23 waste", x.match(2, 1), 0);
    for (int i = 0; i < 6; i++) due("23 part " + i, x.match(2, 2 + i), 34 + i);
    ArsenalRow y = new ArsenalRow();
    for (int i = 0; i < 6; i++) y.part(0, 0, 0, 0, 1);
    for (int t = 0; t < 40; t++) y.tree(0, 0, 500);
    y.growth(0, 9);
    y.days(1800);
    due("23 the greatest waste", y.match(0, 1), 6 * 544);
    for (int i = 0; i < 6; i++) due("23 by numbers", y.match(0, 2 + i), i);
  }

  /** 24 */
  private static void fell() {
    ArsenalRow x = new ArsenalRow();
    x.part(1, 0, 0, 0, 5);
    x.part(1, 0, 0, 0, 6);
    x.tree(0, 0, 6);
    x.tree(0, 0, 5);
    x.hull(1, 0, 0);
    x.hull(1, 0, 0);
    x.hull(0, 0, 0);
    due("24 nobody", x.fell(3), -1);
    due("24 nobody", x.fell(-1), -1);
    due("24 two", x.fell(0), 2);
    due("24 once", x.fell(0), -3);
    due("24 none stand", x.told(3), 0);
    due("24 none", x.fell(1), 0);
    due("24 once, though none", x.fell(1), -3);
    x.tree(0, 0, 6);
    due("24 still", x.fell(1), -3);
    x.days(9);
    due("24 ready", x.fell(2), -3);
    x.breakUp(2);
    due("24 broken", x.fell(2), -3);
  }

  /** 25 */
  private static void treeFor() {
    ArsenalRow x = new ArsenalRow();
    x.part(0, 0, 0, 0, 5);
    x.part(0, 1, 0, 0, 5);
    x.tree(0, 0, 4);
    x.tree(0, 0, 5);
    due("25 nobody", x.treeFor(0, -1), -1);
    x.hull(0, 0, 0);
    due("25 not felled", x.treeFor(0, 0), -9);
    x.fell(0);
    due("25 felled", x.treeFor(0, 0), 1);
    due("25 none", x.treeFor(0, 1), -9);
    due("25 no such part", x.treeFor(0, 5), -9);
    due("25 below", x.treeFor(0, -1), -4);
    due("25 above", x.treeFor(0, 6), -6);
    due("25 nobody", x.treeFor(-1, 6), -1);
    x.days(7);
    x.breakUp(0);
    due("25 broken", x.treeFor(0, 0), 1);
    x.hull(0, 0, 0);
    x.part(2, 0, 0, 0, 4);
    x.hull(2, 0, 0);
    x.fell(2);
    due("25 tree 0", x.treeFor(2, 0), 0);
    due("25 of another hull", x.treeFor(1, 0), -9);
  }

  /** 26 */
  private static void treeOf() {
    ArsenalRow x = new ArsenalRow();
    due("26 nobody", x.treeOf(0, 9), 2000000001);
    x.tree(2, -9, 77);
    due("26 wood", x.treeOf(0, 0), 2);
    due("26 girth", x.treeOf(0, 1), 77);
    due("26 hull", x.treeOf(0, 2), -9);
    due("26 part", x.treeOf(0, 3), -9);
    due("26 bend", x.treeOf(0, 4), -9);
    due("26 other", x.treeOf(0, 5), 2000000002);
    due("26 other", x.treeOf(0, -1), 2000000002);
    due("26 nobody", x.treeOf(-1, 0), 2000000001);
    x.part(0, 1, 0, 0, 1);
    x.part(0, 2, -9, 0, 77);
    x.hull(1, 0, 0);
    x.hull(0, 0, 0);
    x.fell(1);
    due("26 hull", x.treeOf(0, 2), 1);
    due("26 part", x.treeOf(0, 3), 1);
    due("26 refusals", x.told(11), 2);
    due("26 refusals", x.told(12), 2);
  }

  /** 27 */
  private static void count() {
    ArsenalRow x = new ArsenalRow();
    due("27 more was found", x.count(4, 1000000), -1000000);
    due("27 stock", x.stock(4), 1000000);
    due("27 less was found", x.count(4, 0), 1000000);
    due("27 nobody", x.count(6, -1), 2000000001);
    due("27 nobody", x.count(-1, 0), 2000000001);
    due("27 below", x.count(0, -1), 2000000004);
    due("27 above", x.count(0, 1000001), 2000000006);
    for (int i = 2; i < 40; i++) due("27 kept", x.count(i % 6, 0), 0);
    due("27 no room", x.count(0, 0), 2000000006);
    due("27 below ahead of no room", x.count(0, -1), 2000000004);
    due("27 how many", x.told(8), 40);
    due("27 the worst of all", x.worst(4), 1);
    due("27 the last", x.gap(39, 0), 39 % 6);
    due("27 none behind it", x.gap(40, 0), 2000000001);
    due("27 refusals", x.told(16), 2);
  }

  /** 28 */
  private static void gap() {
    ArsenalRow x = new ArsenalRow();
    x.days(4);
    x.count(3, 5);
    x.days(2);
    x.count(1, 6);
    x.count(3, 1);
    x.days(1);
    x.count(3, 2);
    int[][] want = {{3, 4, -5, 0}, {1, 6, -6, 0}, {3, 6, 4, 4}, {3, 7, -1, 6}};
    for (int i = 0; i < 4; i++) {
      for (int what = 0; what < 4; what++) due("28 of " + i + ": " + what, x.gap(i, what), want[i][what]);
    }
    due("28 nobody", x.gap(4, 9), 2000000001);
    due("28 nobody", x.gap(-1, 0), 2000000001);
    due("28 other", x.gap(0, 4), 2000000002);
    due("28 other", x.gap(0, -1), 2000000002);
  }

  /** 29 */
  private static void worst() {
    ArsenalRow x = new ArsenalRow();
    due("29 none", x.worst(0), -9);
    due("29 nobody", x.worst(6), -1);
    due("29 nobody", x.worst(-1), -1);
    x.bring(0, 100);
    x.count(0, 100);
    due("29 no gap", x.worst(0), -9);
    x.days(3);
    x.count(0, 90); // 10 in 3 days
    due("29 the only one", x.worst(0), 1);
    x.days(6);
    x.count(0, 70); // 20 in 6 days
    due("29 of several the first", x.worst(0), 1);
    x.count(0, 67); // 3 in no day counts 1
    due("29 of several the first", x.worst(0), 1);
    x.days(5);
    x.count(0, 50); // 17 in 5 days: 3.4
    due("29 as a fraction", x.worst(0), 4);
    x.count(0, 1000);
    due("29 more was found", x.worst(0), 4);
    due("29 of another good", x.worst(1), -9);
    x.bring(2, 1000000);
    x.days(1985);
    x.count(2, 1);
    x.count(2, 0);
    due("29 large ones", x.worst(2), 6);

    ArsenalRow y = new ArsenalRow();
    y.bring(0, 100);
    y.days(2);
    y.count(0, 99); // 1 in 2 days
    due("29 a gap of 1", y.worst(0), 0);
    y.count(0, 98); // 1 in no day
    due("29 no day counts 1, not 2", y.worst(0), 1);
    y.days(1);
    y.count(0, 96); // 2 in 1 day
    due("29 a span of a day", y.worst(0), 2);
  }

  /** 30 */
  private static void ready() {
    ArsenalRow x = new ArsenalRow();
    due("30 nobody", x.ready(0), -1);
    x.hands(0, 1);
    x.task(0, 2, 0, 294);
    x.hull(0, 0, 0);
    due("30 on the 300th day", x.ready(0), 300);
    x.task(0, 2, 0, 295);
    due("30 on the 301st", x.ready(0), -9);
    x.days(1);
    due("30 a day later it is in sight", x.ready(0), 301);
    x.hands(0, 2);
    due("30 more hands", x.ready(0), 154);
    x.decree(2, 0, 2, 100);
    due("30 feasts to come", x.ready(0), 153 + 25 + 25 + 2);
    x.row(1, 2);
    x.put(1, 1, 100);
    x.lead(0, 1);
    due("30 a roster", x.ready(0), 15);
    due("30 nothing was done", x.told(0), 1);
    due("30 nothing was done", x.hullOf(0, 1), 0);
    x.days(20);
    due("30 since when", x.ready(0), 15);
    x.breakUp(0);
    due("30 broken", x.ready(0), -3);
    due("30 nobody", x.ready(-1), -1);
    x.lose(1);
    x.days(1979);
    x.hands(0, 3);
    x.decree(2, 0, 0, 2000);
    x.task(0, 2, 0, 9);
    x.hull(0, 0, 2000);
    due("30 behind day 2000", x.ready(1), 2000 + 9);
    due("30 late", x.late(1), 9);
  }

  /** 30: a HULL for which hands come late and singly isn't given up */
  private static void readyOfFewHands() {
    ArsenalRow x = new ArsenalRow();
    x.row(0, 30);
    x.put(0, 29, 1);
    x.lead(3, 0);
    x.decree(3, 0, 1, 0);
    x.task(0, 0, 3, 2);
    x.hull(0, 0, 0);
    due("30 on days 29 and 59", x.ready(0), 59 + 6);
    x.task(0, 0, 3, 9);
    due("30 on day 269", x.ready(0), 269 + 6);
    x.task(0, 0, 3, 10);
    due("30 on day 299", x.ready(0), -9);
    x.days(5);
    due("30 then in sight", x.ready(0), 299 + 6);
    x.put(0, 29, 400);
    due("30 one hand at a time", x.ready(0), 299 + 6);
    x.decree(3, 1, 2, 5);
    due("30 two at a time", x.ready(0), 149 + 6);
    x.decree(2, 1, 30, 30);
    x.put(0, 29, 0);
    x.put(0, 0, 400);
    due("30 only on feasts", x.ready(0), -9);
  }

  /** 30 .. 33: what was asked is asked anew of every change */
  private static void askedAgain() {
    ArsenalRow x = new ArsenalRow();
    x.task(0, 0, 0, 40);
    x.hull(0, 0, 0);
    due("30 no hands", x.ready(0), -9);
    due("32 no hands", x.least(), 301);
    x.hands(0, 4);
    due("30 hands", x.ready(0), 16);
    due("32 hands", x.least(), 16);
    x.row(0, 1);
    due("30 not led", x.ready(0), 16);
    x.lead(0, 0);
    due("30 lead", x.ready(0), -9);
    due("32 lead", x.least(), 301);
    x.put(0, 0, 8);
    due("30 put", x.ready(0), 11);
    x.row(0, 1);
    due("30 row", x.ready(0), -9);
    x.row(1, 1);
    x.put(1, 0, 40);
    due("30 another's", x.ready(0), -9);
    x.copy(1, 0, 0, 0, 1);
    due("30 copy", x.ready(0), 7);
    x.lose(0);
    due("30 lose", x.ready(0), 16);
    due("32 lose", x.least(), 16);
    x.decree(3, 0, 2, 0);
    due("30 decree", x.ready(0), 26);
    x.task(0, 0, 0, 2);
    due("30 task", x.ready(0), 7);
    x.needs(0, 0, 0, 5);
    due("30 needs", x.ready(0), -9);
    x.bring(0, 5);
    due("30 bring", x.ready(0), 7);
    x.count(0, 4);
    due("30 count", x.ready(0), -9);
    x.count(0, 5);
    due("30 count", x.ready(0), 7);
    x.raft(3, 1);
    due("30 raft", x.ready(0), -9);
    x.unraft(3);
    due("30 unraft", x.ready(0), 7);
    x.hull(0, 0, 0);
    due("30 hull", x.ready(0), 7);
    due("30 hull", x.ready(1), -9);
    x.priority(1, 1);
    due("30 priority", x.ready(0), -9);
    due("30 priority", x.ready(1), 7);
    x.days(20);
    due("30 days", x.ready(0), -9);
    x.bring(0, 2);
    due("30 bring", x.ready(0), -9);
    x.breakUp(1);
    due("30 breakUp brings 2 of 5", x.ready(0), -9);
    x.count(0, 3);
    due("30 count", x.ready(0), -9);
    x.bring(0, 2);
    due("30 bring", x.ready(0), 27);
    brokenForAnother();
  }

  private static void brokenForAnother() {
    ArsenalRow x = new ArsenalRow();
    x.needs(0, 0, 1, 4);
    x.needs(1, 0, 1, 2);
    x.bring(1, 4);
    x.hull(0, 0, 0);
    x.hull(1, 0, 0);
    x.days(10);
    due("30 lacks", x.ready(1), -9);
    due("32 lacks", x.least(), 311);
    x.breakUp(0);
    due("30 breakUp", x.ready(1), 17);
    due("32 breakUp", x.least(), 17);
  }

  /** 31 */
  private static void late() {
    ArsenalRow x = new ArsenalRow();
    due("31 nobody", x.late(0), -1);
    x.hull(0, 0, 5);
    x.hull(0, 0, 9);
    due("31 late", x.late(0), 2);
    due("31 not below 0", x.late(1), 0);
    x.needs(0, 5, 0, 1);
    due("31 never", x.late(0), 296);
    x.days(10);
    due("31 never", x.late(0), 306);
    due("31 never", x.late(1), 302);
    x.bring(0, 1);
    due("31 taken tomorrow, ready then", x.late(0), 12 - 5);
    x.days(2);
    due("31 ready", x.late(0), -3);
    x.breakUp(0);
    due("31 broken", x.late(0), -3);
    due("31 nobody", x.late(-1), -1);
  }

  /** 32 */
  private static void least() {
    ArsenalRow x = new ArsenalRow();
    due("32 none", x.least(), 0);
    x.hands(0, 10);
    x.task(0, 0, 0, 200);
    x.task(1, 0, 0, 10);
    x.hull(0, 99, 40);
    x.hull(1, 0, 8);
    x.hull(1, 0, 9);
    due("32 the short ones first", x.least(), 0);
    due("32 as it is", x.late(1) + x.late(2), 38);
    due("32 priorities stay", x.hullOf(0, 5), 99);
    x.hull(0, 0, 0);
    x.hull(0, 0, 0);
    due("32 five", x.least() > 0 ? 1 : 0, 1);
    x.hull(0, 0, 0);
    due("32 six", x.least(), -3);
    due("32 refusals", x.told(13), 1);
    x.days(200);
    due("32 none is left", x.least(), 0);
  }

  /** 33 */
  private static void order() {
    ArsenalRow x = new ArsenalRow();
    due("33 none", x.order(0), -9);
    x.hands(0, 10);
    x.task(0, 0, 0, 200);
    x.task(1, 0, 0, 10);
    x.hull(0, 99, 28);
    x.hull(1, 0, 8);
    x.hull(1, 0, 7);
    int[] want = {2, 1, 0};
    for (int i = 0; i < 3; i++) due("33 place " + i, x.order(i), want[i]);
    due("33 in time", x.least(), 0);
    due("33 not so many", x.order(3), -9);
    due("33 not so many", x.order(-1), -9);
    due("33 not so many", x.order(HIGH), -9);
    x.hands(0, 0);
    due("33 none will be ready", x.least(), 273 + 293 + 294);
    for (int i = 0; i < 3; i++) due("33 of several by numbers", x.order(i), i);
    x.hands(0, 10);
    for (int i = 0; i < 3; i++) due("33 as it was", x.order(i), want[i]);
    x.days(1);
    due("33 one is in, whose order comes too late", x.order(0), 0);
    x.hull(2, 0, 2000);
    due("33 four", x.order(3), 3);
    x.hull(2, 0, 0);
    due("33 five", x.order(4) >= 0 ? 1 : 0, 1);
    x.hull(2, 0, 0);
    due("33 six", x.order(0), -3);
    due("33 six", x.order(9), -3);
  }

  /** 34 */
  private static void hullOf() {
    ArsenalRow x = new ArsenalRow();
    due("34 nobody", x.hullOf(0, 9), -1);
    x.task(2, 0, 0, 7);
    x.hull(2, 11, 44);
    int[] waiting = {0, -9, 0, 0, 0, 11, 2, 44, -9};
    x.needs(2, 0, 1, 1);
    for (int what = 0; what < 9; what++) due("34 waiting: " + what, x.hullOf(0, what), waiting[what]);
    x.days(2);
    int[] lacking = {1, 0, 7, 0, 2, 11, 2, 44, -9};
    for (int what = 0; what < 9; what++) due("34 lacking: " + what, x.hullOf(0, what), lacking[what]);
    x.bring(1, 1);
    x.hands(0, 4);
    x.days(1);
    int[] inside = {1, 0, 3, 1, 2, 11, 2, 44, -9};
    for (int what = 0; what < 9; what++) due("34 in: " + what, x.hullOf(0, what), inside[what]);
    x.days(20);
    int[] ready = {2, -9, 0, 0, 2, 11, 2, 44, 10};
    for (int what = 0; what < 9; what++) due("34 ready: " + what, x.hullOf(0, what), ready[what]);
    x.breakUp(0);
    int[] broken = {3, -9, 0, 0, 2, 11, 2, 44, 10};
    for (int what = 0; what < 9; what++) due("34 broken: " + what, x.hullOf(0, what), broken[what]);
    due("34 other", x.hullOf(0, 9), -2);
    due("34 other", x.hullOf(0, -1), -2);
    due("34 nobody", x.hullOf(-1, 0), -1);
  }

  /** 35 */
  private static void basinOf() {
    ArsenalRow x = new ArsenalRow();
    x.bring(0, 9);
    x.raft(5, 9);
    x.hull(0, 0, 0);
    x.days(9);
    due("35 hull", x.basinOf(4, 0), 1);
    due("35 its number", x.basinOf(4, 1), 0);
    due("35 no planks", x.basinOf(4, 2), 0);
    due("35 raft", x.basinOf(5, 0), 2);
    due("35 no hull", x.basinOf(5, 1), -9);
    due("35 planks", x.basinOf(5, 2), 9);
    due("35 nothing", x.basinOf(3, 0), 0);
    due("35 no hull", x.basinOf(3, 1), -9);
    due("35 no planks", x.basinOf(3, 2), 0);
    due("35 nobody", x.basinOf(6, 3), -1);
    due("35 nobody", x.basinOf(-1, 0), -1);
    due("35 other", x.basinOf(0, 3), -2);
    due("35 other", x.basinOf(0, -1), -2);
  }

  /** 36 */
  private static void stock() {
    ArsenalRow x = new ArsenalRow();
    for (int g = 0; g < 6; g++) x.bring(g, g + 1);
    for (int g = 0; g < 6; g++) due("36 stock", x.stock(g), g + 1);
    due("36 nobody", x.stock(6), -1);
    due("36 nobody", x.stock(-1), -1);
    due("36 nobody", x.stock(LOW), -1);
  }

  /** 37 */
  private static void told() {
    ArsenalRow x = new ArsenalRow();
    x.stock(9);
    x.match(0, 9);
    x.match(0, 8);
    x.unraft(0);
    x.days(-1);
    x.put(0, 0, 0);
    x.days(3000);
    x.row(0, 1);
    x.put(0, 1, 0);
    x.lead(9, 0);
    int[] refusals = {2, 2, 1, 1, 1, 1, 1};
    for (int k = 0; k < 7; k++) due("37 refusals " + (k + 1), x.told(11 + k), refusals[k]);
    int[] others = {9, 10, 18, -1, LOW, HIGH};
    for (int what : others) due("37 another", x.told(what), -9);
    for (int k = 0; k < 7; k++) due("37 that is no refusal", x.told(11 + k), refusals[k]);
    x.hands(1, 3);
    x.decree(0, 1, 5, 0);
    x.decree(1, 1, 2, 0);
    x.hull(0, 0, 0);
    x.hull(0, 0, 0);
    x.tree(0, 0, 9);
    x.count(0, 1);
    x.days(7);
    int[] want = {7, 2, 1, 1, 105, 42, 21, 2, 1};
    for (int what = 0; what < 9; what++) due("37 told " + what, x.told(what), want[what]);
  }

  /** As many of everything as there may be. */
  private static void full() {
    ArsenalRow x = new ArsenalRow();
    for (int h = 0; h < 16; h++) x.hull(h % 3, h, h);
    due("18 all wait", x.days(1), 0);
    due("30 the last of sixteen", x.ready(0), 22);
    due("31 the last of sixteen", x.late(0), 22);
    due("18 all", x.days(21), 16);
    due("18 greater priorities first", x.hullOf(15, 8), 7);
    due("37 ready", x.told(2), 16);
    for (int h = 0; h < 16; h++) due("19 broken", x.breakUp(h), 0);
    due("37 none", x.told(2), 0);
    due("14 no room", x.hull(0, 0, 0), -6);
    due("32 none", x.least(), 0);
    due("33 none", x.order(0), -9);
  }
}
