/**
 * The sentences of "Terms" that name a boundary, one by one: what holds just at it and
 * just beside it. (What calls refuse is tested in RefusalsTest.)
 */
public final class BoundariesTest {
  private static int wrong = 0;

  private static void due(String sentence, int got, int want) {
    if (got != want) {
      wrong++;
      System.out.println(sentence + ": answered " + got + ", due is " + want);
    }
  }

  public static void main(String[] args) {
    daysGoOnFrom0();
    yearIsDayBy360();
    allIsNothingAtFirst();
    handsByRosters();
    rosterOfTheDayThatPasses();
    rowsAreMadeAnew();
    copiesAsTheyAllWere();
    decreesFromADayOn();
    latestDayThenToldLast();
    craftCountsNothingOfFeastAndCrowd();
    feasts();
    crowds();
    raftsLieInTheWay();
    planksAndStock();
    taskAsToldWhenItCameIn();
    fromBasin5ToBasin0();
    goodsTakenAndWorkLeft0();
    firstWaitingHull();
    goodsWholeOrNothing();
    goodsOfTheFirstOnesFirst();
    handsLeftCrowdWorkLeft();
    craftsByThemselves();
    idleHands();
    pay();
    wineAndDry();
    wineNeededAndDrunk();
    treesGrow();
    breakingUp();
    breakingUpToTheGreatest();
    treesFit();
    treesThatStandFit();
    matchOfMost();
    matchOfLeastWaste();
    matchOfTheFirst();
    felledOnce();
    inventories();
    spansBegin();
    worstOfFractions();
    worstOfSeveral();
    readyWithin300Days();
    aheadBehindDay2000();
    aheadNothingIsDone();
    lateOnDue();
    lateIfNotReady();
    leastOfWaitingAndIn();
    leastOfSeveral();
    leastBeatsNumbers();
    leastOfAllOrders();
    rostersAndDecreesAhead();
    numbersThatGrowLarge();
    System.out.println(wrong == 0 ? "all boundaries hold" : wrong + " answers are not as due");
    if (wrong != 0) System.exit(1);
  }

  /** "DAYS go on from 0 (2000 at most)" */
  private static void daysGoOnFrom0() {
    ArsenalRow x = new ArsenalRow();
    due("DAY from 0", x.told(0), 0);
    x.days(0);
    due("no DAY passed", x.told(0), 0);
    x.days(1);
    due("one DAY", x.told(0), 1);
    x.days(1998);
    due("DAY 1999", x.told(0), 1999);
    due("two more are too many", x.days(2), -6);
    due("DAY stays", x.told(0), 1999);
    due("one more", x.days(1), 0);
    due("DAY 2000", x.told(0), 2000);
    due("none more", x.days(1), -6);
    due("DAY stays", x.told(0), 2000);
  }

  /** "the YEAR is DAY / 360", "if DAY is a multiple of 360" */
  private static void yearIsDayBy360() {
    ArsenalRow x = new ArsenalRow();
    x.growth(0, 1);
    x.tree(0, 0, 1);
    due("no growth on DAY 0", x.treeOf(0, 1), 1);
    for (int year = 1; year <= 5; year++) {
      x.days(359);
      due("the DAY ahead of YEAR " + year, x.treeOf(0, 1), year);
      x.days(1);
      due("the first DAY of YEAR " + year, x.treeOf(0, 1), year + 1);
      x.days(0);
      due("no DAY, no growth", x.treeOf(0, 1), year + 1);
    }
    x.days(200);
    due("DAY 2000 is in YEAR 5", x.treeOf(0, 1), 6);
  }

  /** "0 at first", "MISSING (at first)" */
  private static void allIsNothingAtFirst() {
    ArsenalRow x = new ArsenalRow();
    for (int craft = 0; craft < 4; craft++) {
      due("HANDS 0 at first", x.hands(craft, 0), 0);
      due("led by none at first", x.lead(craft, -1), -1);
    }
    for (int good = 0; good < 6; good++) {
      due("STOCK 0 at first", x.stock(good), 0);
      due("no WORST", x.worst(good), -9);
    }
    for (int r = 0; r < 4; r++) {
      due("MISSING at first", x.lose(r), 0);
      due("a MISSING one has no place", x.put(r, 0, 0), -5);
    }
    for (int sort = 0; sort < 3; sort++) {
      for (int basin = 0; basin < 6; basin++) {
        due("WORK 0 at first", x.task(sort, basin, 0, 0), 0);
        for (int good = 0; good < 6; good++) due("needs 0 at first", x.needs(sort, basin, good, 0), 0);
      }
      due("no PARTS at first", x.match(sort, 2), -2);
    }
    for (int wood = 0; wood < 3; wood++) due("GROWTH 0 at first", x.growth(wood, 0), 0);
    due("no HULL 0", x.hullOf(0, 0), -1);
    due("no TREE 0", x.treeOf(0, 0), 2000000001);
    due("no INVENTORY 0", x.gap(0, 0), 2000000001);

    ArsenalRow y = new ArsenalRow();
    y.needs(0, 0, 0, 0);
    y.task(1, 0, 0, 1);
    y.hull(1, 0, 0);
    y.hands(0, 1);
    due("a TASK's CRAFT is 0 at first, WORK 0: one DAY in each BASIN", y.ready(0), 7);
  }

  /** "the number at place DAY modulo the row's length; if it is MISSING or empty, as told" */
  private static void handsByRosters() {
    ArsenalRow x = new ArsenalRow();
    x.hands(0, 400);
    x.lead(0, 3);
    due("MISSING: as told", x.handsOn(0, 0), 400);
    x.row(3, 0);
    due("empty: as told", x.handsOn(0, 2000), 400);
    x.row(3, 1);
    due("one number 0", x.handsOn(0, 0), 0);
    x.put(3, 0, 7);
    due("one number, first DAY", x.handsOn(0, 0), 7);
    due("one number, last DAY", x.handsOn(0, 2000), 7);
    x.row(3, 30);
    for (int place = 0; place < 30; place++) x.put(3, place, 100 + place);
    due("place 0", x.handsOn(0, 0), 100);
    due("place 29", x.handsOn(0, 29), 129);
    due("round to place 0", x.handsOn(0, 30), 100);
    due("DAY 2000", x.handsOn(0, 2000), 120);
    x.hands(0, 399);
    due("hands told count nothing while led", x.handsOn(0, 29), 129);
    due("of another CRAFT", x.handsOn(1, 29), 0);
    x.lose(3);
    due("lost: as told", x.handsOn(0, 29), 399);
    x.row(3, 2);
    due("still led by it", x.handsOn(0, 29), 0);
    x.lead(1, 3);
    x.put(3, 1, 9);
    due("one ROSTER leads two CRAFTS", x.handsOn(0, 29) + x.handsOn(1, 31), 18);
    x.lead(0, -1);
    due("led by none", x.handsOn(0, 29), 399);
  }

  /** A DAY passes: "DAY is 1 more" ahead of all else. */
  private static void rosterOfTheDayThatPasses() {
    ArsenalRow x = new ArsenalRow();
    x.row(0, 3);
    x.put(0, 0, 100);
    x.put(0, 1, 10);
    x.put(0, 2, 1);
    x.lead(2, 0);
    int[] idle = {10, 11, 111, 121};
    for (int want : idle) {
      x.days(1);
      due("IDLE by the DAY's place", x.told(6), want);
    }
  }

  /** "ROSTER r becomes a row of n numbers 0" */
  private static void rowsAreMadeAnew() {
    ArsenalRow x = new ArsenalRow();
    x.row(0, 30);
    for (int place = 0; place < 30; place++) x.put(0, place, 400);
    x.row(0, 30);
    for (int place = 0; place < 30; place++) due("0 again", x.put(0, place, 400), 0);
    x.row(0, 2);
    due("the last place", x.put(0, 1, 5), 0);
    due("behind the last place", x.put(0, 2, 5), -7);
    x.lose(0);
    x.row(0, 30);
    for (int place = 0; place < 30; place++) due("0 after it was MISSING", x.put(0, place, 1), 0);
  }

  /** "n numbers of ROSTER r .. come to ROSTER s .. (as they all were)" */
  private static void copiesAsTheyAllWere() {
    int[][] moves = {{0, 1, 29}, {1, 0, 29}, {0, 15, 15}, {15, 0, 15}, {0, 0, 30}, {3, 7, 20}, {7, 3, 20}, {29, 0, 1}, {4, 4, 0}};
    for (int[] move : moves) {
      ArsenalRow x = new ArsenalRow();
      x.row(1, 30);
      x.row(2, 30);
      int[] want = new int[30];
      int[] other = new int[30];
      for (int place = 0; place < 30; place++) {
        x.put(1, place, 100 + place);
        want[place] = 100 + place;
      }
      for (int k = 0; k < move[2]; k++) {
        want[move[1] + k] = 100 + move[0] + k;
        other[move[1] + k] = 100 + move[0] + k;
      }
      due("copy to another", x.copy(1, move[0], 2, move[1], move[2]), move[2]);
      due("copy over itself", x.copy(1, move[0], 1, move[1], move[2]), move[2]);
      for (int place = 0; place < 30; place++) {
        due("of itself, place " + place, x.put(1, place, 0), want[place]);
        due("of another, place " + place, x.put(2, place, 0), other[place]);
      }
    }
  }

  /** "the DAY from which it holds (now or later)", "0 without", "60 without" */
  private static void decreesFromADayOn() {
    int[] without = {0, 0, 0, 60};
    int[] least = {0, 0, 0, 1};
    int[] most = {100, 9, 60, 200};
    for (int kind = 0; kind < 4; kind++) {
      ArsenalRow x = new ArsenalRow();
      x.days(10);
      due("without", x.force(kind, 0, 2000), without[kind]);
      x.decree(kind, 0, most[kind], 10);
      due("the DAY ahead", x.force(kind, 0, 9), without[kind]);
      due("from its DAY on", x.force(kind, 0, 10), most[kind]);
      x.decree(kind, 0, least[kind], 2000);
      due("to the DAY ahead of the next", x.force(kind, 0, 1999), most[kind]);
      due("the last DAY", x.force(kind, 0, 2000), least[kind]);
      x.days(1990);
      due("now, on the last DAY", x.decree(kind, 0, most[kind], 2000), 2);
      due("told last", x.force(kind, 0, 2000), most[kind]);
      due("what is past stays", x.force(kind, 0, 9), without[kind]);
    }
  }

  /** "the one with the latest DAY that is not behind it, of several the DECREE that was told last" */
  private static void latestDayThenToldLast() {
    ArsenalRow x = new ArsenalRow();
    x.decree(0, 3, 1, 50);
    x.decree(0, 3, 2, 40);
    x.decree(0, 3, 3, 50);
    x.decree(0, 3, 4, 40);
    x.decree(0, 3, 5, 0);
    x.decree(0, 3, 6, 49);
    due("DAY 0", x.force(0, 3, 0), 5);
    due("DAY 39", x.force(0, 3, 39), 5);
    due("DAY 40: told last", x.force(0, 3, 40), 4);
    due("DAY 48", x.force(0, 3, 48), 4);
    due("DAY 49", x.force(0, 3, 49), 6);
    due("DAY 50: told last of that DAY", x.force(0, 3, 50), 3);
    x.decree(0, 3, 0, 60);
    due("a WAGE of 0 is one, too", x.force(0, 3, 60), 0);
    x.hands(3, 1);
    x.days(60);
    due("PAID as in force day by day", x.told(4), 39 * 5 + 9 * 4 + 6 + 10 * 3);
  }

  /** "of 2 and 3 the CRAFT counts nothing" */
  private static void craftCountsNothingOfFeastAndCrowd() {
    for (int kind = 0; kind < 4; kind++) {
      ArsenalRow x = new ArsenalRow();
      x.decree(kind, 1, 5, 0);
      x.decree(kind, 2, 6, 0);
      for (int craft = 0; craft < 4; craft++) {
        int own = craft == 1 ? 5 : craft == 2 ? 6 : 0;
        due("of a CRAFT", x.force(kind, craft, 0), kind < 2 ? own : 6);
      }
      for (int other = 0; other < 4; other++) {
        int without = other == 3 ? 60 : 0;
        if (other != kind) due("of another KIND", x.force(other, 1, 0), without);
      }
    }
  }

  /** "each DAY that is a multiple of the number has no WORK (0: none; 0 .. 60)" */
  private static void feasts() {
    int[] numbers = {0, 1, 2, 59, 60};
    for (int number : numbers) {
      ArsenalRow x = new ArsenalRow();
      x.hands(0, 1);
      x.task(0, 0, 0, 2000);
      x.hull(0, 0, 0);
      x.decree(2, 0, number, 0);
      int work = 2000;
      int idle = 0;
      for (int day = 1; day <= 121; day++) {
        boolean feast = number > 0 && day % number == 0;
        work -= feast ? 0 : 1;
        idle += feast ? 1 : 0;
        x.days(1);
        due("WORK left on DAY " + day + ", FEAST " + number, x.hullOf(0, 2), work);
        due("IDLE on DAY " + day + ", FEAST " + number, x.told(6), idle);
      }
    }
    ArsenalRow y = new ArsenalRow();
    y.decree(2, 0, 1, 0);
    y.needs(0, 0, 0, 3);
    y.bring(0, 3);
    y.hull(0, 0, 0);
    y.days(1);
    due("on a FEAST a HULL comes in", y.hullOf(0, 0), 1);
    due("on a FEAST GOODS are taken", y.stock(0), 0);
    y.days(1);
    due("on a FEAST a HULL goes on", y.hullOf(0, 1), 1);
    due("without WORK it gets READY on FEASTS alone", y.ready(0), 7);
  }

  /** "CROWD (1 .. 200; 60 without): so many hands at most at one HULL on a DAY" */
  private static void crowds() {
    int[] crowds = {60, 1, 200, 199};
    for (int crowd : crowds) {
      ArsenalRow x = new ArsenalRow();
      x.hands(1, 400);
      x.task(0, 0, 1, 2000);
      x.task(0, 1, 1, crowd);
      x.hull(0, 0, 0);
      if (crowd != 60) x.decree(3, 2, crowd, 0);
      x.days(1);
      due("CROWD " + crowd, x.hullOf(0, 2), 2000 - crowd);
      due("the others are IDLE", x.told(6), 400 - crowd);
      x.hands(1, crowd);
      x.days(1);
      due("as many as CROWD lets", x.hullOf(0, 2), 2000 - 2 * crowd);
      due("none is IDLE", x.told(6), 400 - crowd);
      x.hands(1, crowd - 1);
      x.days(1);
      due("one less than CROWD lets", x.hullOf(0, 2), 2000 - 3 * crowd + 1);
    }
    ArsenalRow y = new ArsenalRow();
    y.hands(0, 120);
    y.task(0, 0, 0, 100);
    y.task(0, 1, 0, 100);
    y.hull(0, 9, 0);
    y.decree(3, 0, 200, 1);
    y.days(1);
    y.task(0, 0, 0, 2000);
    y.hull(0, 0, 0);
    y.decree(3, 0, 60, 2);
    y.days(1);
    due("CROWD is of each HULL by itself: the first", y.hullOf(0, 2), 40);
    due("CROWD is of each HULL by itself: the second", y.hullOf(1, 2), 1940);
  }

  /** "each is empty or has one HULL or one RAFT"; "goes into the next BASIN, if that is empty" */
  private static void raftsLieInTheWay() {
    for (int basin = 0; basin < 6; basin++) {
      ArsenalRow x = new ArsenalRow();
      x.bring(0, 1);
      x.raft(basin, 1);
      x.hull(0, 0, 0);
      x.days(20);
      due("WAITING or IN ahead of the RAFT", x.hullOf(0, 1), basin == 0 ? -9 : basin - 1);
      due("its state", x.hullOf(0, 0), basin == 0 ? 0 : 1);
      due("never READY", x.ready(0), -9);
      due("the RAFT stays", x.basinOf(basin, 0), 2);
      due("a RAFT has no HULL's number", x.basinOf(basin, 1), -9);
      for (int other = 0; other < 6; other++) {
        if (other != basin) due("a HULL or nothing", x.basinOf(other, 0), other == basin - 1 ? 1 : 0);
        if (other != basin) due("HULL 0 or none", x.basinOf(other, 1), other == basin - 1 ? 0 : -9);
      }
      x.unraft(basin);
      due("READY behind it", x.ready(0), 20 + 7 - basin);
      x.days(1);
      due("into that BASIN on the next DAY", x.hullOf(0, 1), basin);
    }
    ArsenalRow y = new ArsenalRow();
    y.bring(0, 6);
    for (int basin = 0; basin < 6; basin++) due("a RAFT in each", y.raft(basin, 1), 1);
    for (int basin = 0; basin < 6; basin++) due("one at most", y.raft(basin, 1), -3);
    due("all of STOCK", y.stock(0), 0);
  }

  /** "PLANKS: 1 .. 1000 of GOOD 0, out of its STOCK"; "(to 1000000 at most): how many it had" */
  private static void planksAndStock() {
    ArsenalRow x = new ArsenalRow();
    x.bring(0, 1000000);
    x.raft(0, 1000);
    x.raft(1, 1);
    due("out of STOCK", x.stock(0), 998999);
    due("PLANKS", x.basinOf(0, 2), 1000);
    due("PLANKS", x.basinOf(1, 2), 1);
    x.bring(0, 1);
    due("just to the greatest", x.unraft(0), 1000);
    due("STOCK", x.stock(0), 1000000);
    due("above it, how many it had", x.unraft(1), 1);
    due("STOCK", x.stock(0), 1000000);
    due("it is empty", x.unraft(1), -3);
    due("no PLANKS of nothing", x.basinOf(0, 2), 0);
    x.raft(5, 1000);
    x.count(0, 999001);
    due("one above the greatest", x.unraft(5), 1000);
    due("STOCK", x.stock(0), 1000000);
    for (int good = 1; good < 6; good++) due("of GOOD 0 alone", x.stock(good), 0);
  }

  /** "A HULL that comes into a BASIN has its TASK as it is told then: WORK left, GOODS not taken." */
  private static void taskAsToldWhenItCameIn() {
    ArsenalRow x = new ArsenalRow();
    x.hands(0, 10);
    x.hands(1, 1);
    x.task(0, 0, 0, 30);
    x.needs(0, 0, 3, 5);
    x.hull(0, 0, 0);
    x.days(1);
    due("GOODS lack", x.hullOf(0, 3), 0);
    x.task(0, 0, 1, 2000);
    x.needs(0, 0, 3, 1);
    x.bring(3, 4);
    x.days(1);
    due("needs 5 as told when it came", x.hullOf(0, 4), 2);
    x.bring(3, 1);
    x.days(1);
    due("takes 5", x.stock(3), 0);
    due("WORK and CRAFT as told when it came", x.hullOf(0, 2), 20);
    x.task(0, 1, 1, 9);
    x.days(3);
    due("the next TASK as told just ahead of it", x.hullOf(0, 1) * 100 + x.hullOf(0, 2), 108);
    due("GOODS of the next BASIN are taken anew", x.hullOf(0, 3), 1);
    x.hull(0, 0, 0);
    x.days(1);
    due("a later HULL has it as told now", x.hullOf(1, 2) + x.hullOf(1, 4) * 10000, 12000);
  }

  /** "From BASIN 5 to BASIN 0": a HULL goes into a BASIN that was left on the same DAY. */
  private static void fromBasin5ToBasin0() {
    ArsenalRow x = new ArsenalRow();
    for (int h = 0; h < 8; h++) x.hull(0, 0, 0);
    due("none is READY by DAY 6", x.days(6), 0);
    for (int basin = 0; basin < 6; basin++) due("all BASINS have one", x.basinOf(basin, 1), 5 - basin);
    due("one is READY on DAY 7", x.days(1), 1);
    due("READY since", x.hullOf(0, 8), 7);
    for (int basin = 0; basin < 6; basin++) due("all went on at once", x.basinOf(basin, 1), 6 - basin);
    due("READY ones are in no BASIN", x.hullOf(0, 1), -9);
    due("one a DAY", x.days(2), 2);
    due("BASIN 0 is empty when none waits", x.basinOf(0, 0), 0);
  }

  /** "a HULL there whose GOODS are taken and WORK left is 0" */
  private static void goodsTakenAndWorkLeft0() {
    ArsenalRow x = new ArsenalRow();
    x.hands(0, 1);
    x.task(0, 5, 0, 2);
    x.hull(0, 0, 0);
    x.days(6);
    due("WORK left 1", x.hullOf(0, 2), 1);
    due("isn't READY", x.days(1), 0);
    due("WORK left 0", x.hullOf(0, 2), 0);
    due("is still in BASIN 5", x.hullOf(0, 1), 5);
    due("READY on the next DAY", x.days(1), 1);

    ArsenalRow y = new ArsenalRow();
    y.needs(0, 2, 4, 1);
    y.hull(0, 0, 0);
    y.days(50);
    due("no WORK, but GOODS aren't taken", y.hullOf(0, 1), 2);
    due("DAYS of LACK", y.hullOf(0, 4), 48);
    y.bring(4, 1);
    y.days(1);
    due("taken, goes on the DAY behind", y.hullOf(0, 1) * 10 + y.hullOf(0, 3), 21);
    y.days(1);
    due("gone on", y.hullOf(0, 1), 3);
    due("LACK stays", y.hullOf(0, 4), 48);
  }

  /** "FIRST: by PRIORITY, the greater first, then by numbers" */
  private static void firstWaitingHull() {
    ArsenalRow x = new ArsenalRow();
    int[] priorities = {0, 98, 99, 98, 99, 0};
    for (int p : priorities) x.hull(0, p, 0);
    int[] want = {2, 4, 1, 3, 0, 5};
    for (int hull : want) {
      x.days(1);
      due("the first WAITING one", x.basinOf(0, 1), hull);
    }
    ArsenalRow y = new ArsenalRow();
    y.hull(0, 5, 0);
    y.hull(0, 5, 0);
    y.hull(0, 5, 0);
    y.priority(2, 6);
    y.priority(0, 4);
    y.days(1);
    due("by PRIORITY as told last", y.basinOf(0, 1), 2);
    y.days(1);
    due("then the next", y.basinOf(0, 1), 1);
    y.hull(0, 4, 0);
    y.days(1);
    due("then by numbers", y.basinOf(0, 1), 0);
  }

  /** "if STOCK has all that is needed it is taken; else nothing, and it is a DAY of LACK" */
  private static void goodsWholeOrNothing() {
    for (int good = 0; good < 6; good++) {
      ArsenalRow x = new ArsenalRow();
      for (int g = 0; g < 6; g++) {
        x.needs(0, 0, g, 500);
        x.bring(g, g == good ? 499 : 500);
      }
      x.hands(0, 5);
      x.task(0, 0, 0, 5);
      x.hull(0, 0, 0);
      x.days(1);
      due("one lacks one: not taken", x.hullOf(0, 3), 0);
      due("a DAY of LACK", x.hullOf(0, 4), 1);
      due("no WORK without GOODS", x.hullOf(0, 2), 5);
      for (int g = 0; g < 6; g++) due("nothing is taken", x.stock(g), g == good ? 499 : 500);
      x.bring(good, 1);
      x.days(1);
      due("just all", x.hullOf(0, 3), 1);
      due("no more LACK", x.hullOf(0, 4), 1);
      due("WORK on the same DAY", x.hullOf(0, 2), 0);
      for (int g = 0; g < 6; g++) due("all is taken", x.stock(g), 0);
    }
  }

  /** "HULLS IN BASINS, the first ones first"; one that lacks doesn't keep others from taking. */
  private static void goodsOfTheFirstOnesFirst() {
    ArsenalRow x = new ArsenalRow();
    x.needs(0, 0, 1, 10);
    x.needs(1, 1, 1, 4);
    x.hull(1, 5, 0);
    x.hull(0, 4, 0);
    x.days(2);
    due("both lack", x.hullOf(0, 4) * 10 + x.hullOf(1, 4), 11);
    x.bring(1, 13);
    x.priority(1, 6);
    x.days(1);
    due("the greater takes 10", x.hullOf(1, 3), 1);
    due("the lesser lacks one", x.hullOf(0, 4), 2);
    x.bring(1, 1);
    x.days(1);
    due("then it takes", x.stock(1), 0);

    ArsenalRow y = new ArsenalRow();
    y.needs(0, 0, 1, 10);
    y.needs(1, 1, 1, 4);
    y.hull(1, 5, 0);
    y.hull(0, 4, 0);
    y.days(2);
    y.priority(1, 6);
    y.bring(1, 9);
    y.days(1);
    due("the first lacks", y.hullOf(1, 4), 2);
    due("the second takes", y.stock(1), 5);

    ArsenalRow z = new ArsenalRow();
    z.needs(1, 1, 1, 5);
    z.needs(0, 0, 1, 5);
    z.hull(1, 5, 0);
    z.hull(0, 5, 0);
    z.bring(1, 5);
    z.days(2);
    due("of like PRIORITY by numbers", z.hullOf(0, 3) * 10 + z.hullOf(1, 3), 10);
  }

  /** "as many hands as there are left of the CRAFT, as CROWD lets, as WORK is left" */
  private static void handsLeftCrowdWorkLeft() {
    int[] hands = {29, 30, 31, 69, 70, 71};
    for (int n : hands) {
      ArsenalRow x = new ArsenalRow();
      x.task(0, 1, 0, 30);
      x.task(1, 0, 0, 40);
      x.hull(0, 9, 0);
      x.hull(1, 1, 0);
      x.days(1);
      x.hands(0, n);
      x.days(1);
      int first = Math.min(n, 30);
      int second = Math.min(n - first, 40);
      due("the first's WORK left", x.hullOf(0, 2), 30 - first);
      due("the second's WORK left", x.hullOf(1, 2), 40 - second);
      due("IDLE", x.told(6), n - first - second);
    }
    ArsenalRow y = new ArsenalRow();
    y.task(0, 1, 0, 30);
    y.task(1, 0, 0, 40);
    y.hull(0, 9, 0);
    y.hull(1, 1, 0);
    y.days(1);
    y.priority(1, 10);
    y.hands(0, 41);
    y.days(1);
    due("the greater PRIORITY first, though behind", y.hullOf(1, 2), 0);
    due("one hand is left", y.hullOf(0, 2), 29);
  }

  /** "CRAFT by CRAFT": hands of one CRAFT don't work for another. */
  private static void craftsByThemselves() {
    for (int craft = 0; craft < 4; craft++) {
      ArsenalRow x = new ArsenalRow();
      x.task(0, 0, craft, 50);
      x.hull(0, 0, 0);
      for (int c = 0; c < 4; c++) x.hands(c, c == craft ? 0 : 40);
      x.days(1);
      due("no hands of the CRAFT", x.hullOf(0, 2), 50);
      due("the others are IDLE", x.told(6), 120);
      x.hands(craft, 40);
      x.days(1);
      due("hands of the CRAFT", x.hullOf(0, 2), 10);
      due("the others are IDLE", x.told(6), 240);
    }
  }

  /** "Hands of a CRAFT that had none to do are IDLE (on FEASTS, too: all)" */
  private static void idleHands() {
    ArsenalRow x = new ArsenalRow();
    x.hands(0, 400);
    x.hands(1, 400);
    x.hands(2, 400);
    x.hands(3, 400);
    x.days(1);
    due("all without a HULL", x.told(6), 1600);
    x.task(0, 0, 2, 60);
    x.hull(0, 0, 0);
    x.days(1);
    due("all but 60", x.told(6), 3140);
    x.decree(2, 0, 1, 3);
    x.hull(0, 0, 0);
    x.days(1);
    due("all on a FEAST", x.told(6), 4740);
    x.decree(2, 0, 0, 4);
    x.needs(0, 0, 0, 1);
    x.days(1);
    due("that HULL had come in and is worked at", x.told(6), 6280);
    x.hull(0, 0, 0);
    x.days(1);
    due("all if GOODS lack", x.told(6), 7880);
  }

  /** "PAID is more by HANDS times WAGE of each CRAFT" */
  private static void pay() {
    ArsenalRow x = new ArsenalRow();
    for (int craft = 0; craft < 4; craft++) {
      x.hands(craft, 400);
      x.decree(0, craft, 100, 2);
    }
    x.days(1);
    due("no WAGE on DAY 1", x.told(4), 0);
    x.days(1);
    due("the greatest WAGES of a DAY", x.told(4), 160000);
    x.decree(2, 0, 1, 3);
    x.days(1);
    due("on a FEAST, too", x.told(4), 320000);
    x.hands(1, 0);
    x.decree(0, 2, 0, 4);
    x.decree(0, 3, 1, 4);
    x.days(1);
    due("each CRAFT by its own", x.told(4), 320000 + 40000 + 400);
  }

  /** "WINE is less by HANDS times its measures, CRAFT by CRAFT; what lacks is DRY" */
  private static void wineAndDry() {
    int[] stocks = {0, 1, 44, 45, 46, 1000};
    for (int stock : stocks) {
      ArsenalRow x = new ArsenalRow();
      x.hands(0, 3);
      x.hands(3, 2);
      x.decree(1, 0, 9, 0);
      x.decree(1, 3, 9, 1);
      x.bring(5, stock);
      for (int good = 0; good < 5; good++) x.bring(good, 7);
      x.days(1);
      due("WINE left of " + stock, x.stock(5), Math.max(0, stock - 45));
      due("DRY of " + stock, x.told(5), Math.max(0, 45 - stock));
      for (int good = 0; good < 5; good++) due("other GOODS stay", x.stock(good), 7);
    }
    ArsenalRow y = new ArsenalRow();
    y.hands(1, 400);
    y.decree(1, 1, 9, 0);
    y.decree(2, 0, 1, 0);
    y.days(1);
    due("DRY on a FEAST, too", y.told(5), 3600);
    y.hands(1, 0);
    y.days(1);
    due("no hands drink none", y.told(5), 3600);
  }

  /** GOODS (2) come ahead of PAY (4): WINE that a TASK needs is taken ahead of what is drunk. */
  private static void wineNeededAndDrunk() {
    ArsenalRow x = new ArsenalRow();
    x.hands(0, 1);
    x.decree(1, 0, 1, 0);
    x.needs(0, 0, 5, 10);
    x.needs(0, 1, 5, 10);
    x.bring(5, 20);
    x.hull(0, 0, 0);
    x.days(1);
    due("10 and 1", x.stock(5), 9);
    x.days(1);
    due("9 are not all", x.hullOf(0, 4), 1);
    due("one more was drunk", x.stock(5), 8);
    due("none is DRY", x.told(5), 0);
    due("AHEAD they are drunk, too", x.ready(0), -9);
    x.bring(5, 2);
    due("if they suffice on the next DAY", x.ready(0), 8);
    x.days(1);
    due("taken first, then what lacks is DRY", x.told(5), 1);
  }

  /** "TREES that stand have more GIRTH: GROWTH of their WOOD" */
  private static void treesGrow() {
    ArsenalRow x = new ArsenalRow();
    for (int wood = 0; wood < 3; wood++) {
      x.tree(wood, 0, 10);
      x.tree(wood, 0, 500);
    }
    x.growth(1, 9);
    x.growth(2, 1);
    x.part(0, 1, 0, 0, 10);
    x.hull(0, 0, 0);
    x.fell(0);
    x.days(359);
    x.growth(2, 4);
    x.days(1);
    int[] want = {10, 500, 10, 509, 14, 504};
    for (int tree = 0; tree < 6; tree++) due("GIRTH of TREE " + tree, x.treeOf(tree, 1), want[tree]);
    x.days(1440);
    due("for five YEARS", x.treeOf(3, 1), 545);
    x.part(1, 1, 0, 0, 500);
    due("WASTE of a grown one", x.match(1, 1), 45);
    x.tree(0, 0, 3);
    x.growth(0, 9);
    x.days(200);
    due("no YEAR begins behind DAY 1800", x.treeOf(6, 1), 3);
  }

  /** "of each GOOD half of what all its TASKS had needed (.. the sum halved, cut)" */
  private static void breakingUp() {
    ArsenalRow x = new ArsenalRow();
    int[] basinsThatNeed = {5, 1, 2, 3, 0, 6};
    for (int good = 0; good < 6; good++) {
      x.bring(good, 10000);
      for (int basin = 0; basin < basinsThatNeed[good]; basin++) x.needs(0, basin, good, good == 5 ? 500 : 1);
    }
    x.hull(0, 0, 0);
    x.days(7);
    for (int good = 0; good < 6; good++) x.count(good, 0);
    due("2 (of 5), 0 (of 1), 1, 1 (of 3), 0, 1500", x.breakUp(0), 1504);
    int[] want = {2, 0, 1, 1, 0, 1500};
    for (int good = 0; good < 6; good++) due("STOCK of GOOD " + good, x.stock(good), want[good]);
    due("BROKEN", x.hullOf(0, 0), 3);
    due("READY since, as it was", x.hullOf(0, 8), 7);
    due("it is no READY one", x.told(2), 0);
    due("it is a HULL", x.told(1), 1);

    ArsenalRow y = new ArsenalRow();
    y.bring(1, 100);
    y.needs(0, 0, 1, 10);
    y.needs(0, 1, 1, 10);
    y.hull(0, 0, 0);
    y.days(1);
    y.needs(0, 0, 1, 500);
    y.needs(0, 1, 1, 13);
    y.days(1);
    y.needs(0, 1, 1, 500);
    y.days(5);
    due("each as it was told when it came in", y.breakUp(0), 11);
  }

  /** "comes to STOCK (to 1000000 at most)" */
  private static void breakingUpToTheGreatest() {
    int[] rooms = {0, 1, 249, 250, 251};
    for (int room : rooms) {
      ArsenalRow x = new ArsenalRow();
      x.needs(0, 3, 2, 500);
      x.needs(0, 3, 3, 8);
      x.bring(2, 500);
      x.bring(3, 8);
      x.hull(0, 0, 0);
      x.days(7);
      x.bring(2, 1000000 - room);
      due("what came of 250 into " + room, x.breakUp(0), Math.min(250, room) + 4);
      due("STOCK", x.stock(2), 1000000 - room + Math.min(250, room));
      due("STOCK of the other", x.stock(3), 4);
    }
  }

  /** "of the WOOD, its BEND is no more than SPAN from the PART's, its GIRTH is the PART's or more" */
  private static void treesFit() {
    for (int span = 0; span <= 9; span++) {
      for (int bend = -9; bend <= 9; bend++) {
        ArsenalRow x = new ArsenalRow();
        x.part(0, 1, bend, span, 50);
        for (int b = -9; b <= 9; b++) x.tree(1, b, 60 + b);
        int least = Math.max(-9, bend - span);
        due("the least BEND that fits", x.match(0, 2), least + 9);
        due("its WASTE", x.match(0, 1), 10 + least);

        ArsenalRow y = new ArsenalRow();
        y.part(0, 1, bend, span, 50);
        for (int b = -9; b <= 9; b++) y.tree(1, b, 60 - b);
        due("the greatest BEND that fits", y.match(0, 2), Math.min(9, bend + span) + 9);
      }
    }
    ArsenalRow z = new ArsenalRow();
    z.part(0, 1, 0, 0, 50);
    z.tree(1, 0, 49);
    z.tree(0, 0, 50);
    z.tree(2, 0, 50);
    due("too thin, of other WOODS", z.match(0, 0), 0);
    due("none", z.match(0, 2), -9);
    due("no WASTE", z.match(0, 1), 0);
    z.tree(1, 0, 500);
    due("thick enough", z.match(0, 2), 3);
    due("WASTE", z.match(0, 1), 450);
    z.tree(1, 0, 50);
    due("just as thick", z.match(0, 2), 4);
    due("no WASTE", z.match(0, 1), 0);
  }

  /** "if it STANDS" */
  private static void treesThatStandFit() {
    ArsenalRow x = new ArsenalRow();
    x.part(0, 0, 0, 0, 1);
    x.tree(0, 0, 1);
    x.tree(0, 0, 1);
    x.hull(0, 0, 0);
    x.hull(0, 0, 0);
    x.hull(0, 0, 0);
    due("both STAND", x.told(3), 2);
    due("the first", x.fell(0), 1);
    due("one STANDS", x.told(3), 1);
    due("the second", x.match(0, 2), 1);
    due("it", x.fell(1), 1);
    due("none STANDS", x.told(3), 0);
    due("none", x.match(0, 0), 0);
    due("none", x.fell(2), 0);
    due("FELLED for", x.treeOf(0, 2) * 10 + x.treeOf(1, 2), 1);
    due("its PART", x.treeOf(1, 3), 0);
    due("of HULL 1", x.treeFor(1, 0), 1);
    due("of HULL 2", x.treeFor(2, 0), -9);
    x.days(9);
    x.breakUp(0);
    due("a TREE of a BROKEN HULL stays FELLED", x.told(3), 0);
  }

  /** "as many PARTS as can be" */
  private static void matchOfMost() {
    ArsenalRow x = new ArsenalRow();
    for (int i = 0; i < 6; i++) x.part(0, 0, i, 0, 10);
    for (int i = 0; i < 5; i++) x.part(1, 0, i, 1, 10);
    for (int i = 0; i < 6; i++) x.tree(0, i, 400 - 60 * i);
    due("all six", x.match(0, 0), 6);
    due("WASTE of all", x.match(0, 1), 390 + 330 + 270 + 210 + 150 + 90);
    for (int i = 0; i < 6; i++) due("PART " + i, x.match(0, 2 + i), i);
    due("five of six TREES", x.match(1, 0), 5);
    due("without the thickest", x.match(1, 1), 330 + 270 + 210 + 150 + 90);
    for (int i = 0; i < 5; i++) due("PART " + i, x.match(1, 2 + i), i + 1);

    ArsenalRow y = new ArsenalRow();
    y.part(0, 0, 0, 9, 10);
    y.part(0, 0, 9, 0, 10);
    y.tree(0, 9, 10);
    due("one TREE, no TREE to two", y.match(0, 0), 1);
    due("the first PART has it", y.match(0, 2) * 100 + y.match(0, 3), -9);
    y.tree(0, 0, 500);
    due("two, though WASTE is more", y.match(0, 0), 2);
    due("WASTE", y.match(0, 1), 490);
    due("PART 0", y.match(0, 2), 1);
    due("PART 1", y.match(0, 3), 0);
  }

  /** "of these the least WASTE" */
  private static void matchOfLeastWaste() {
    ArsenalRow x = new ArsenalRow();
    x.part(0, 0, 0, 9, 10);
    x.part(0, 0, 0, 9, 20);
    x.tree(0, 0, 25);
    x.tree(0, 0, 21);
    x.tree(0, 0, 20);
    x.tree(0, 0, 19);
    due("WASTE 9 and 0", x.match(0, 1), 9);
    due("PART 0", x.match(0, 2), 3);
    due("PART 1", x.match(0, 3), 2);
    x.tree(0, 0, 10);
    due("WASTE 0", x.match(0, 1), 0);
    due("PART 0", x.match(0, 2), 4);

    ArsenalRow y = new ArsenalRow();
    y.part(0, 0, 0, 9, 10);
    y.part(0, 0, 0, 9, 15);
    y.tree(0, 0, 14);
    y.tree(0, 0, 12);
    due("as many as can be, then the least WASTE", y.match(0, 1), 2);
    due("the later TREE", y.match(0, 2), 1);
    due("none fits PART 1", y.match(0, 3), -9);
  }

  /** "of several the first by PARTS, by the TREE's number, none behind all" */
  private static void matchOfTheFirst() {
    ArsenalRow x = new ArsenalRow();
    for (int i = 0; i < 6; i++) x.part(2, 2, 0, 9, 30);
    for (int t = 0; t < 40; t++) x.tree(2, t % 5, 30);
    due("all six", x.match(2, 0), 6);
    for (int i = 0; i < 6; i++) due("PART " + i, x.match(2, 2 + i), i);

    ArsenalRow y = new ArsenalRow();
    for (int i = 0; i < 6; i++) y.part(0, 0, 0, 9, 30);
    y.tree(0, 0, 30);
    y.tree(0, 0, 30);
    due("two TREES for six", y.match(0, 0), 2);
    int[] want = {0, 1, -9, -9, -9, -9};
    for (int i = 0; i < 6; i++) due("none behind all, PART " + i, y.match(0, 2 + i), want[i]);

    ArsenalRow z = new ArsenalRow();
    z.part(0, 0, 0, 9, 30);
    z.part(0, 0, 0, 9, 20);
    z.tree(0, 0, 40);
    z.tree(0, 0, 35);
    due("WASTE is the same both ways", z.match(0, 1), 25);
    due("PART 0 has the first TREE", z.match(0, 2), 0);
    due("PART 1 has the other", z.match(0, 3), 1);
  }

  /** "MATCH of a HULL's SORT is FELLED for it (once)" */
  private static void felledOnce() {
    ArsenalRow x = new ArsenalRow();
    for (int i = 0; i < 6; i++) x.part(1, 0, i, 0, 10);
    for (int i = 5; i >= 0; i--) x.tree(0, i, 10 + i);
    x.hull(0, 0, 0);
    x.hull(1, 0, 0);
    x.hull(1, 0, 0);
    due("a SORT without PARTS", x.fell(0), 0);
    x.days(1);
    x.part(0, 0, 0, 9, 1);
    due("it was done", x.fell(0), -3);
    due("all six", x.fell(1), 6);
    for (int i = 0; i < 6; i++) {
      due("of PART " + i, x.treeFor(1, i), 5 - i);
      due("the PART of its TREE", x.treeOf(5 - i, 3), i);
      due("the HULL of its TREE", x.treeOf(5 - i, 2), 1);
      due("none of another HULL", x.treeFor(2, i), -9);
    }
    x.tree(0, 3, 10);
    due("one for another HULL", x.fell(2), 1);
    due("its TREE", x.treeFor(2, 3), 6);
    due("none of the other PARTS", x.treeFor(2, 2), -9);
  }

  /** "GAP: STOCK less n (below 0: more was found). STOCK is n." */
  private static void inventories() {
    ArsenalRow x = new ArsenalRow();
    x.bring(2, 100);
    due("as much", x.count(2, 100), 0);
    due("one less", x.count(2, 99), 1);
    due("one more", x.count(2, 100), -1);
    due("nine more, no -9 of none", x.count(2, 109), -9);
    due("none", x.count(2, 0), 109);
    due("the greatest", x.count(2, 1000000), -1000000);
    due("none of it", x.count(2, 0), 1000000);
    due("STOCK", x.stock(2), 0);
    int[] gaps = {0, 1, -1, -9, 109, -1000000, 1000000};
    for (int i = 0; i < 7; i++) due("GAP of " + i, x.gap(i, 2), gaps[i]);
    due("how many", x.told(8), 7);
  }

  /** "with its DAY and the DAY of the one ahead of it of this GOOD (0 without): its SPAN" */
  private static void spansBegin() {
    ArsenalRow x = new ArsenalRow();
    x.count(0, 0);
    x.days(5);
    x.count(1, 0);
    x.count(0, 0);
    x.count(0, 0);
    x.days(1995);
    x.count(1, 0);
    x.count(2, 0);
    int[][] want = {{0, 0, 0, 0}, {1, 5, 0, 0}, {0, 5, 0, 0}, {0, 5, 0, 5}, {1, 2000, 0, 5}, {2, 2000, 0, 0}};
    for (int i = 0; i < want.length; i++) {
      for (int what = 0; what < 4; what++) due("of INVENTORY " + i + ": " + what, x.gap(i, what), want[i][what]);
    }
  }

  /** "the greatest GAP by DAYS of its SPAN (as a fraction; a SPAN of 0 DAYS counts 1)" */
  private static void worstOfFractions() {
    ArsenalRow x = new ArsenalRow();
    x.bring(0, 1000000);
    x.days(3);
    x.count(0, 999900); // 100 / 3
    x.days(7);
    x.count(0, 999667); // 233 / 7 = 33.28..
    due("as a fraction: 33.33.. is more", x.worst(0), 0);
    x.days(7);
    x.count(0, 999433); // 234 / 7 = 33.42..
    due("as a fraction: 33.42.. is more", x.worst(0), 2);
    x.count(0, 999400); // 33 in no DAY
    due("33 / 1 is less", x.worst(0), 2);
    x.count(0, 999366); // 34 in no DAY
    due("34 / 1 is more", x.worst(0), 4);

    ArsenalRow y = new ArsenalRow();
    y.bring(1, 1000000);
    y.bring(2, 1000000);
    y.days(1999);
    y.count(1, 1); // 999999 / 1999 = 500.249..
    y.days(1);
    y.count(1, 0); // 1 / 1
    y.bring(1, 1000000);
    due("large GAPS and SPANS", y.worst(1), 0);
    y.count(1, 999499); // 501 / 1
    due("one more than 500", y.worst(1), 2);
    y.count(2, 0); // 1000000 / 2000
    due("the only one of a GOOD", y.worst(2), 3);
  }

  /** "of several the first; of those with a GAP above 0" */
  private static void worstOfSeveral() {
    ArsenalRow x = new ArsenalRow();
    x.count(3, 0);
    due("a GAP of 0", x.worst(3), -9);
    x.count(3, 50);
    due("a GAP below 0", x.worst(3), -9);
    x.days(2);
    x.count(3, 49);
    due("a GAP of 1 in 2 DAYS", x.worst(3), 2);
    x.days(4);
    x.count(3, 47);
    due("2 in 4 DAYS is the same: the first", x.worst(3), 2);
    x.days(1);
    x.count(3, 46);
    due("1 in a DAY", x.worst(3), 4);
    x.count(3, 45);
    due("1 in no DAY is the same: the first", x.worst(3), 4);
    for (int good = 0; good < 6; good++) {
      if (good != 3) due("of another GOOD", x.worst(good), -9);
    }
  }

  /** "AHEAD, within 300 DAYS; -9" */
  private static void readyWithin300Days() {
    int[] starts = {0, 1, 1700, 1701, 2000};
    for (int start : starts) {
      ArsenalRow x = new ArsenalRow();
      x.days(start);
      x.hands(0, 1);
      x.task(0, 5, 0, 294);
      x.hull(0, 0, 0);
      due("the 300th DAY", x.ready(0), start + 300);
      due("LATE", x.late(0), start + 300);
      ArsenalRow y = new ArsenalRow();
      y.days(start);
      y.hands(0, 1);
      y.task(0, 5, 0, 295);
      y.hull(0, 0, 0);
      due("the 301st DAY", y.ready(0), -9);
      due("LATE", y.late(0), start + 301);
    }
  }

  /** "nothing done but that DAYS pass (also behind DAY 2000)" */
  private static void aheadBehindDay2000() {
    ArsenalRow x = new ArsenalRow();
    x.days(1994);
    x.hull(0, 0, 2000);
    due("behind DAY 2000", x.ready(0), 2001);
    due("LATE", x.late(0), 1);
    x.days(6);
    due("not READY on DAY 2000", x.hullOf(0, 0), 1);
    due("still", x.ready(0), 2001);
    x.hull(0, 0, 2000);
    due("one that waits on DAY 2000", x.ready(1), 2007);
    due("LATE", x.late(1), 7);
    due("LEAST", x.least(), 8);

    ArsenalRow y = new ArsenalRow();
    y.days(1993);
    y.hull(0, 0, 2000);
    due("on DAY 2000", y.ready(0), 2000);
    due("not LATE", y.late(0), 0);
    due("READY on DAY 2000", y.days(7), 1);
  }

  /** "AHEAD: as it is, nothing done": what is asked AHEAD changes nothing. */
  private static void aheadNothingIsDone() {
    for (Settings.Look look : Settings.LOOKS) {
      ArsenalRow x = Settings.busy();
      for (int hull = 0; hull < 5; hull++) {
        x.ready(hull);
        x.late(hull);
      }
      x.least();
      x.order(0);
      boolean same = look.of(Calls.of(x)).equals(look.of(Calls.of(Settings.busy())));
      due("all is as it was", same ? 1 : 0, 1);
    }
    ArsenalRow z = new ArsenalRow();
    z.hands(0, 3);
    z.decree(0, 0, 5, 0);
    z.hull(0, 0, 0);
    due("AHEAD", z.ready(0), 7);
    due("nothing is PAID", z.told(4), 0);
    due("none is IDLE", z.told(6), 0);
  }

  /** "the DAYS behind DUE on which it is READY; .. not below 0" */
  private static void lateOnDue() {
    for (int dueDay = 0; dueDay <= 9; dueDay++) {
      ArsenalRow x = new ArsenalRow();
      x.hull(0, 0, dueDay);
      due("LATE of one READY on DAY 7, DUE " + dueDay, x.late(0), Math.max(0, 7 - dueDay));
      due("LEAST of it", x.least(), Math.max(0, 7 - dueDay));
    }
  }

  /** "if it is not READY within 300 DAYS from now, DAY and 301 less DUE; not below 0" */
  private static void lateIfNotReady() {
    int[] dues = {0, 1, 300, 301, 302, 2000};
    for (int dueDay : dues) {
      ArsenalRow x = new ArsenalRow();
      x.task(0, 0, 0, 1);
      x.hull(0, 0, dueDay);
      due("never READY, DUE " + dueDay, x.late(0), Math.max(0, 301 - dueDay));
      x.days(1);
      due("a DAY later", x.late(0), Math.max(0, 302 - dueDay));
      due("LEAST", x.least(), Math.max(0, 302 - dueDay));
      x.days(1999);
      due("on DAY 2000", x.late(0), 2301 - dueDay);
    }
  }

  /** "of all orders of the HULLS that are WAITING or IN (5 at most)" */
  private static void leastOfWaitingAndIn() {
    ArsenalRow x = new ArsenalRow();
    due("none", x.least(), 0);
    due("none", x.order(0), -9);
    for (int h = 0; h < 5; h++) x.hull(0, 0, 0);
    due("five that wait", x.least(), 7 + 8 + 9 + 10 + 11);
    x.hull(0, 0, 0);
    due("six", x.least(), -3);
    due("six", x.order(0), -3);
    x.days(6);
    due("six that are IN", x.least(), -3);
    x.days(1);
    due("one is READY, five are IN", x.least(), 8 + 9 + 10 + 11 + 12);
    for (int i = 0; i < 5; i++) due("place " + i, x.order(i), i + 1);
    due("behind them", x.order(5), -9);
    x.breakUp(0);
    due("BROKEN ones don't count", x.least(), 50);
    x.hull(0, 0, 0);
    due("six again", x.order(4), -3);
    due("refusals", x.told(13), 4);
  }

  /** "of several the first by numbers" */
  private static void leastOfSeveral() {
    ArsenalRow x = new ArsenalRow();
    for (int h = 0; h < 5; h++) x.hull(0, h, 2000);
    due("none is LATE", x.least(), 0);
    for (int i = 0; i < 5; i++) due("by numbers, not by PRIORITY", x.order(i), i);
    due("PRIORITIES stay", x.hullOf(4, 5), 4);
    x.days(1);
    due("the greatest PRIORITY came in", x.basinOf(0, 1), 4);
    for (int i = 0; i < 5; i++) due("still by numbers", x.order(i), i);
  }

  /** "the one with which their LATE together is least" */
  private static void leastBeatsNumbers() {
    ArsenalRow x = new ArsenalRow();
    int[] dues = {11, 10, 9, 8, 7};
    for (int d : dues) x.hull(0, 0, d);
    due("in time in one order alone", x.least(), 0);
    for (int i = 0; i < 5; i++) due("the last of all orders", x.order(i), 4 - i);
    due("as it is: 0 is in time", x.late(0), 0);
    due("as it is: 4 is LATE", x.late(4), 4);

    ArsenalRow y = new ArsenalRow();
    y.hands(0, 1);
    y.task(0, 0, 0, 10);
    y.task(1, 0, 0, 1);
    y.hull(0, 99, 0);
    y.hull(1, 0, 0);
    // 0 first: READY on 16 and 17; 1 first: on 7 and 17.
    due("the short one first", y.least(), 24);
    due("its place", y.order(0), 1);
    y.days(1);
    due("the long one is IN already", y.least(), 16 + 17);
    due("by numbers then", y.order(0), 0);
  }

  /** "of all orders": each order of one to five HULLS is the least LATE one if DUES ask for it. */
  private static void leastOfAllOrders() {
    for (int n = 1; n <= 5; n++) tryOrders(new int[n], 0);
  }

  private static void tryOrders(int[] order, int placed) {
    if (placed == order.length) {
      askOrder(order);
      return;
    }
    for (int hull = 0; hull < order.length; hull++) {
      boolean isPlaced = false;
      for (int i = 0; i < placed; i++) isPlaced |= order[i] == hull;
      if (!isPlaced) {
        order[placed] = hull;
        tryOrders(order, placed + 1);
      }
    }
  }

  /** Without WORK the HULL at place i is READY on DAY 7 + i. */
  private static void askOrder(int[] order) {
    int[] dues = new int[order.length];
    for (int i = 0; i < order.length; i++) dues[order[i]] = 7 + i;
    ArsenalRow x = new ArsenalRow();
    for (int d : dues) x.hull(0, 0, d);
    due("in time in this order alone", x.least(), 0);
    for (int i = 0; i < order.length; i++) due("the HULL at place " + i, x.order(i), order[i]);
    due("behind the last", x.order(order.length), -9);
    ArsenalRow y = new ArsenalRow();
    y.days(100);
    for (int i = 0; i < order.length; i++) y.hull(0, order[i], dues[i]);
    int late = 0;
    for (int i = 0; i < order.length; i++) late += 107 + i - dues[i];
    due("all LATE in all orders", y.least(), late);
    for (int i = 0; i < order.length; i++) due("the first by numbers", y.order(i), i);
  }

  /** "DECREES and ROSTERS as they stand" */
  private static void rostersAndDecreesAhead() {
    ArsenalRow x = new ArsenalRow();
    x.hands(0, 1);
    x.task(0, 0, 0, 100);
    x.hull(0, 0, 0);
    due("a hand a DAY", x.ready(0), 106);
    x.decree(2, 0, 1, 101);
    due("FEASTS from DAY 101 on", x.ready(0), 106);
    x.decree(2, 0, 1, 100);
    due("FEASTS from DAY 100 on", x.ready(0), -9);
    x.decree(2, 0, 0, 300);
    due("to DAY 299", x.ready(0), -9);
    x.decree(2, 0, 0, 293);
    due("to DAY 292", x.ready(0), 299);
    x.decree(2, 0, 0, 294);
    x.decree(2, 0, 1, 293);
    due("to DAY 293", x.ready(0), 300);
    x.days(200);
    x.lead(0, 2);
    due("a MISSING ROSTER", x.ready(0), 300);
    x.row(2, 0);
    due("an empty ROSTER", x.ready(0), 300);
    x.row(2, 30);
    x.put(2, 24, 1);
    due("DAY 294 is at place 24", x.ready(0), 300);
    x.put(2, 24, 0);
    x.put(2, 25, 1);
    due("DAY 295 is at place 25", x.ready(0), 301);

    ArsenalRow y = new ArsenalRow();
    y.days(2000);
    y.row(0, 30);
    y.put(0, 19, 1);
    y.lead(0, 0);
    y.task(0, 0, 0, 1);
    y.hull(0, 0, 0);
    due("DAY 2029 is at place 19", y.ready(0), 2035);
    y.decree(2, 0, 2029, 2000);
    due("a FEAST above the greatest is none", y.ready(0), 2035);
    y.decree(2, 0, 29, 2000);
    due("FEASTS of 29: DAY 2030", y.ready(0), 2035);
    y.put(0, 20, 1);
    y.put(0, 19, 0);
    due("place 20 is on DAY 2030", y.ready(0), 2066);
  }

  /** The largest numbers that all DAYS together can bring stay what they are. */
  private static void numbersThatGrowLarge() {
    ArsenalRow x = new ArsenalRow();
    for (int craft = 0; craft < 4; craft++) {
      x.hands(craft, 400);
      x.decree(0, craft, 100, 0);
      x.decree(1, craft, 9, 0);
    }
    x.bring(5, 1000000);
    x.needs(0, 0, 0, 1);
    x.hull(0, 0, 0);
    x.days(2000);
    due("PAID", x.told(4), 320000000);
    due("DRY", x.told(5), 2000 * 14400 - 1000000);
    due("IDLE", x.told(6), 3200000);
    due("LACK", x.hullOf(0, 4), 2000);
    due("LATE", x.late(0), 2301);
  }
}
