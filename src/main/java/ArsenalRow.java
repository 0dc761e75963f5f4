import java.util.Arrays;

/**
 * An arsenal: hulls in a row of basins, goods, hands, decrees, trees and
 * inventories, as ../shared/DOC.md promises. Every row is made in a constructor
 * and used again, so that no call makes an object.
 */
public final class ArsenalRow {
  private static final int CRAFTS = 4;
  private static final int GOODS = 6;
  private static final int ROSTERS = 4;
  private static final int KINDS = 4;
  private static final int BASINS = 6;
  private static final int SORTS = 3;
  private static final int WOODS = 3;

  private static final int LAST_DAY = 2000;
  private static final int YEAR = 360;
  private static final int AHEAD_DAYS = 300;

  private static final int MOST_HANDS = 400;
  private static final int MOST_STOCK = 1000000;
  private static final int MOST_PLACES = 30;
  private static final int MOST_DECREES = 40;
  private static final int MOST_WORK = 2000;
  private static final int MOST_NEED = 500;
  private static final int MOST_HULLS = 16;
  private static final int MOST_PRIORITY = 99;
  private static final int MOST_PLANKS = 1000;
  private static final int MOST_TREES = 40;
  private static final int MOST_PARTS = 6;
  private static final int MOST_GROWTH = 9;
  private static final int MOST_BEND = 9;
  private static final int MOST_SPAN = 9;
  private static final int MOST_GIRTH = 500;
  private static final int MOST_INVENTORIES = 40;
  private static final int MOST_ORDERED = 5;

  private static final int PLANK_GOOD = 0;
  private static final int WINE_GOOD = 5;

  private static final int WAGE_KIND = 0;
  private static final int WINE_KIND = 1;
  private static final int FEAST_KIND = 2;
  private static final int CROWD_KIND = 3;
  private static final int[] LEAST_DECREED = {0, 0, 0, 1};
  private static final int[] MOST_DECREED = {100, 9, 60, 200};
  private static final int[] WITHOUT_DECREE = {0, 0, 0, 60};

  private static final int WAITING = 0;
  private static final int IN = 1;
  private static final int READY = 2;
  private static final int BROKEN = 3;

  private static final int EMPTY_BERTH = -1;
  private static final int RAFT_BERTH = -2;

  private static final int NONE = -9;
  private static final int NO_FAULT = 0;
  private static final int NOBODY = -1;
  private static final int OTHER = -2;
  private static final int STATE = -3;
  private static final int BELOW = -4;
  private static final int MISSING = -5;
  private static final int ROOM = -6;
  private static final int BEYOND = -7;
  private static final int ASIDE = 2000000000;

  private int day;
  private final int[] refusals = new int[8];
  private final Crews crews = new Crews();
  private final Decrees decrees = new Decrees();
  private final Tasks tasks = new Tasks();
  private final Yard yard = new Yard();
  private final Grove grove = new Grove();
  private final Parts parts = new Parts();
  private final Matching matching = new Matching();
  private final Ledger ledger = new Ledger();
  private final Almanac today = new Almanac(1);
  private final Outlook outlook = new Outlook();

  public ArsenalRow() {
  }

  public int hands(int craft, int n) {
    int fault = !within(craft, CRAFTS) ? NOBODY : outside(n, 0, MOST_HANDS);
    if (fault != NO_FAULT) {
      return refused(fault);
    }
    outlook.forget();
    int was = crews.toldHands[craft];
    crews.toldHands[craft] = n;
    return was;
  }

  public int bring(int good, int n) {
    if (!within(good, GOODS)) {
      return refused(NOBODY);
    }
    int fault = outside(n, 0, MOST_STOCK - yard.stock[good]);
    if (fault != NO_FAULT) {
      return refused(fault);
    }
    outlook.forget();
    yard.stock[good] += n;
    return yard.stock[good];
  }

  public int row(int r, int n) {
    int fault = !within(r, ROSTERS) ? NOBODY : outside(n, 0, MOST_PLACES);
    if (fault != NO_FAULT) {
      return refused(fault);
    }
    outlook.forget();
    Arrays.fill(crews.rosters[r], 0);
    crews.lengths[r] = n;
    return n;
  }

  public int lose(int r) {
    if (!within(r, ROSTERS)) {
      return refused(NOBODY);
    }
    if (crews.isMissing(r)) {
      return 0;
    }
    outlook.forget();
    crews.lengths[r] = Crews.NO_ROW;
    return 1;
  }

  public int put(int r, int place, int n) {
    int fault = !within(r, ROSTERS) ? NOBODY
        : crews.isMissing(r) ? MISSING
        : !within(place, crews.lengths[r]) ? BEYOND
        : outside(n, 0, MOST_HANDS);
    if (fault != NO_FAULT) {
      return refused(fault);
    }
    outlook.forget();
    int was = crews.rosters[r][place];
    crews.rosters[r][place] = n;
    return was;
  }

  public int copy(int r, int i, int s, int j, int n) {
    int fault = !within(r, ROSTERS) || !within(s, ROSTERS) ? NOBODY
        : crews.isMissing(r) || crews.isMissing(s) ? MISSING
        : !crews.hasPlaces(r, i, n) || !crews.hasPlaces(s, j, n) ? BEYOND
        : NO_FAULT;
    if (fault != NO_FAULT) {
      return refused(fault);
    }
    outlook.forget();
    System.arraycopy(crews.rosters[r], i, crews.rosters[s], j, n);
    return n;
  }

  public int lead(int craft, int r) {
    if (!within(craft, CRAFTS) || r != Crews.NO_LEADER && !within(r, ROSTERS)) {
      return refusedAside(NOBODY);
    }
    outlook.forget();
    int was = crews.leaders[craft];
    crews.leaders[craft] = r;
    return was;
  }

  public int handsOn(int craft, int day) {
    int fault = !within(craft, CRAFTS) ? NOBODY : outside(day, 0, LAST_DAY);
    return fault != NO_FAULT ? refused(fault) : crews.handsOfDay(craft, day);
  }

  public int decree(int kind, int craft, int n, int day) {
    if (!within(kind, KINDS) || !within(craft, CRAFTS)) {
      return refused(NOBODY);
    }
    if (n < LEAST_DECREED[kind] || day < this.day) {
      return refused(BELOW);
    }
    if (n > MOST_DECREED[kind] || day > LAST_DAY || decrees.size >= MOST_DECREES) {
      return refused(ROOM);
    }
    outlook.forget();
    decrees.insert(Decrees.slotOf(kind, craft), n, day);
    return decrees.size - 1;
  }

  public int force(int kind, int craft, int day) {
    int fault = !within(kind, KINDS) || !within(craft, CRAFTS) ? NOBODY : outside(day, 0, LAST_DAY);
    if (fault != NO_FAULT) {
      return refused(fault);
    }
    decrees.rewind();
    decrees.goOnTo(day);
    return decrees.inForce(kind, craft);
  }

  public int task(int sort, int basin, int craft, int work) {
    int fault = !within(sort, SORTS) || !within(basin, BASINS) || !within(craft, CRAFTS) ? NOBODY
        : outside(work, 0, MOST_WORK);
    if (fault != NO_FAULT) {
      return refused(fault);
    }
    outlook.forget();
    int was = tasks.work[sort][basin];
    tasks.craft[sort][basin] = craft;
    tasks.work[sort][basin] = work;
    return was;
  }

  public int needs(int sort, int basin, int good, int n) {
    int fault = !within(sort, SORTS) || !within(basin, BASINS) || !within(good, GOODS) ? NOBODY
        : outside(n, 0, MOST_NEED);
    if (fault != NO_FAULT) {
      return refused(fault);
    }
    outlook.forget();
    int at = basin * GOODS + good;
    int was = tasks.need[sort][at];
    tasks.need[sort][at] = n;
    return was;
  }

  public int hull(int sort, int priority, int due) {
    if (!within(sort, SORTS)) {
      return refused(NOBODY);
    }
    if (priority < 0 || due < 0) {
      return refused(BELOW);
    }
    if (priority > MOST_PRIORITY || due > LAST_DAY || yard.hullCount >= MOST_HULLS) {
      return refused(ROOM);
    }
    outlook.forget();
    return yard.addHull(sort, priority, due);
  }

  public int priority(int hull, int p) {
    int fault = !isHull(hull) ? NOBODY
        : !yard.hulls[hull].isUnderWay() ? STATE
        : outside(p, 0, MOST_PRIORITY);
    if (fault != NO_FAULT) {
      return refused(fault);
    }
    outlook.forget();
    int was = yard.hulls[hull].rank;
    yard.hulls[hull].rank = p;
    return was;
  }

  public int raft(int basin, int planks) {
    int fault = !within(basin, BASINS) ? NOBODY
        : yard.berths[basin] != EMPTY_BERTH ? STATE
        : outside(planks, 1, MOST_PLANKS);
    if (fault == NO_FAULT && yard.stock[PLANK_GOOD] < planks) {
      fault = STATE;
    }
    if (fault != NO_FAULT) {
      return refused(fault);
    }
    outlook.forget();
    yard.stock[PLANK_GOOD] -= planks;
    yard.berths[basin] = RAFT_BERTH;
    yard.planks[basin] = planks;
    return 1;
  }

  public int unraft(int basin) {
    int fault = !within(basin, BASINS) ? NOBODY
        : yard.berths[basin] == EMPTY_BERTH ? STATE
        : yard.berths[basin] != RAFT_BERTH ? OTHER
        : NO_FAULT;
    if (fault != NO_FAULT) {
      return refused(fault);
    }
    outlook.forget();
    int had = yard.planks[basin];
    yard.berths[basin] = EMPTY_BERTH;
    yard.planks[basin] = 0;
    yard.store(PLANK_GOOD, had);
    return had;
  }

  public int days(int n) {
    int fault = outside(n, 0, LAST_DAY - day);
    if (fault != NO_FAULT) {
      return refused(fault);
    }
    outlook.forget();
    yard.lineUp();
    decrees.rewind();
    int readied = 0;
    for (int passed = 0; passed < n; passed++) {
      day++;
      today.write(0, day, crews, decrees);
      readied += yard.passDay(day, today, 0, tasks);
      if (day % YEAR == 0) {
        grove.grow();
      }
    }
    return readied;
  }

  public int breakUp(int hull) {
    int fault = !isHull(hull) ? NOBODY : yard.hulls[hull].state != READY ? STATE : NO_FAULT;
    if (fault != NO_FAULT) {
      return refused(fault);
    }
    outlook.forget();
    Hull broken = yard.hulls[hull];
    broken.state = BROKEN;
    int came = 0;
    for (int good = 0; good < GOODS; good++) {
      came += yard.store(good, broken.neededInAll[good] / 2);
    }
    return came;
  }

  public int growth(int wood, int n) {
    int fault = !within(wood, WOODS) ? NOBODY : outside(n, 0, MOST_GROWTH);
    if (fault != NO_FAULT) {
      return refused(fault);
    }
    int was = grove.growths[wood];
    grove.growths[wood] = n;
    return was;
  }

  public int tree(int wood, int bend, int girth) {
    if (!within(wood, WOODS)) {
      return refused(NOBODY);
    }
    if (bend < -MOST_BEND || girth < 1) {
      return refused(BELOW);
    }
    if (bend > MOST_BEND || girth > MOST_GIRTH || grove.size >= MOST_TREES) {
      return refused(ROOM);
    }
    return grove.plant(wood, bend, girth);
  }

  public int part(int sort, int wood, int bend, int span, int girth) {
    if (!within(sort, SORTS) || !within(wood, WOODS)) {
      return refused(NOBODY);
    }
    if (bend < -MOST_BEND || span < 0 || girth < 1) {
      return refused(BELOW);
    }
    if (bend > MOST_BEND || span > MOST_SPAN || girth > MOST_GIRTH || parts.sizes[sort] >= MOST_PARTS) {
      return refused(ROOM);
    }
    return parts.add(sort, wood, bend, span, girth);
  }

  public int match(int sort, int what) {
    int fault = !within(sort, SORTS) ? NOBODY : !within(what, 2 + parts.sizes[sort]) ? OTHER : NO_FAULT;
    if (fault != NO_FAULT) {
      return refused(fault);
    }
    matching.solve(grove, parts, sort);
    switch (what) {
      case 0:
        return matching.matched;
      case 1:
        return matching.waste;
      default:
        return matching.treeOfPart[what - 2];
    }
  }

  public int fell(int hull) {
    int fault = !isHull(hull) ? NOBODY
        : !yard.hulls[hull].isUnderWay() || yard.hulls[hull].felled ? STATE
        : NO_FAULT;
    if (fault != NO_FAULT) {
      return refused(fault);
    }
    yard.hulls[hull].felled = true;
    int sort = yard.hulls[hull].sort;
    matching.solve(grove, parts, sort);
    for (int i = 0; i < parts.sizes[sort]; i++) {
      if (matching.treeOfPart[i] != NONE) {
        grove.fellFor(matching.treeOfPart[i], hull, i);
      }
    }
    return matching.matched;
  }

  public int treeFor(int hull, int i) {
    int fault = !isHull(hull) ? NOBODY : outside(i, 0, MOST_PARTS - 1);
    return fault != NO_FAULT ? refused(fault) : grove.felledFor(hull, i);
  }

  public int treeOf(int tree, int what) {
    if (!within(tree, grove.size)) {
      return refusedAside(NOBODY);
    }
    switch (what) {
      case 0:
        return grove.woods[tree];
      case 1:
        return grove.girths[tree];
      case 2:
        return grove.hulls[tree];
      case 3:
        return grove.places[tree];
      case 4:
        return grove.bends[tree];
      default:
        return refusedAside(OTHER);
    }
  }

  public int count(int good, int n) {
    int fault = !within(good, GOODS) ? NOBODY : outside(n, 0, MOST_STOCK);
    if (fault == NO_FAULT && ledger.size >= MOST_INVENTORIES) {
      fault = ROOM;
    }
    if (fault != NO_FAULT) {
      return refusedAside(fault);
    }
    outlook.forget();
    int missed = yard.stock[good] - n;
    yard.stock[good] = n;
    ledger.add(good, day, missed);
    return missed;
  }

  public int gap(int i, int what) {
    if (!within(i, ledger.size)) {
      return refusedAside(NOBODY);
    }
    switch (what) {
      case 0:
        return ledger.goods[i];
      case 1:
        return ledger.days[i];
      case 2:
        return ledger.gaps[i];
      case 3:
        return ledger.begins[i];
      default:
        return refusedAside(OTHER);
    }
  }

  public int worst(int good) {
    return !within(good, GOODS) ? refused(NOBODY) : ledger.worstOf(good);
  }

  public int ready(int hull) {
    int fault = !isHull(hull) ? NOBODY : yard.hulls[hull].state == BROKEN ? STATE : NO_FAULT;
    if (fault != NO_FAULT) {
      return refused(fault);
    }
    if (yard.hulls[hull].state == READY) {
      return yard.hulls[hull].readySince;
    }
    return readyAhead(hull);
  }

  public int late(int hull) {
    int fault = !isHull(hull) ? NOBODY : !yard.hulls[hull].isUnderWay() ? STATE : NO_FAULT;
    if (fault != NO_FAULT) {
      return refused(fault);
    }
    return lateness(readyAhead(hull), yard.hulls[hull].due, day);
  }

  public int least() {
    if (!findOrder()) {
      return refused(STATE);
    }
    return outlook.leastSum;
  }

  public int order(int i) {
    if (!findOrder()) {
      return refused(STATE);
    }
    return within(i, outlook.ordered) ? outlook.leastOrder[i] : NONE;
  }

  public int hullOf(int hull, int what) {
    if (!isHull(hull)) {
      return refused(NOBODY);
    }
    Hull it = yard.hulls[hull];
    switch (what) {
      case 0:
        return it.state;
      case 1:
        return it.basin;
      case 2:
        return it.work;
      case 3:
        return it.taken ? 1 : 0;
      case 4:
        return it.lacks;
      case 5:
        return it.rank;
      case 6:
        return it.sort;
      case 7:
        return it.due;
      case 8:
        return it.readySince;
      default:
        return refused(OTHER);
    }
  }

  public int basinOf(int basin, int what) {
    if (!within(basin, BASINS)) {
      return refused(NOBODY);
    }
    int berth = yard.berths[basin];
    switch (what) {
      case 0:
        return berth == EMPTY_BERTH ? 0 : berth == RAFT_BERTH ? 2 : 1;
      case 1:
        return berth < 0 ? NONE : berth;
      case 2:
        return yard.planks[basin];
      default:
        return refused(OTHER);
    }
  }

  public int stock(int good) {
    return !within(good, GOODS) ? refused(NOBODY) : yard.stock[good];
  }

  public int told(int what) {
    switch (what) {
      case 0:
        return day;
      case 1:
        return yard.hullCount;
      case 2:
        return yard.countOf(READY);
      case 3:
        return grove.standing();
      case 4:
        return yard.paid;
      case 5:
        return yard.dry;
      case 6:
        return yard.idle;
      case 7:
        return decrees.size;
      case 8:
        return ledger.size;
      default:
        return what >= 11 && what <= 17 ? refusals[what - 10] : NONE;
    }
  }

  private static boolean within(int index, int size) {
    return index >= 0 && index < size;
  }

  private static int outside(int n, int least, int most) {
    return n < least ? BELOW : n > most ? ROOM : NO_FAULT;
  }

  private boolean isHull(int hull) {
    return within(hull, yard.hullCount);
  }

  private int refused(int fault) {
    refusals[-fault]++;
    return fault;
  }

  /** For answers that may be below 0 themselves, so that a refusal isn't taken for one. */
  private int refusedAside(int fault) {
    return ASIDE - refused(fault);
  }

  private int readyAhead(int hull) {
    outlook.standAt(day, crews, decrees);
    return outlook.readyDay(hull, yard, tasks);
  }

  /** Leaves the order that is least late in the outlook; false if there are too many HULLS for it. */
  private boolean findOrder() {
    if (yard.countOf(WAITING) + yard.countOf(IN) > MOST_ORDERED) {
      return false;
    }
    outlook.standAt(day, crews, decrees);
    outlook.findLeast(yard, tasks);
    return true;
  }

  /** LATE of a HULL, seen from a DAY, if it is READY on readyDay (NONE: not within AHEAD_DAYS). */
  private static int lateness(int readyDay, int due, int from) {
    int end = readyDay == NONE ? from + AHEAD_DAYS + 1 : readyDay;
    return Math.max(0, end - due);
  }

  /** HANDS of the CRAFTS, and the ROSTERS that may lead them. */
  private static final class Crews {
    static final int NO_ROW = -1;
    static final int NO_LEADER = -1;

    final int[] toldHands = new int[CRAFTS];
    final int[] leaders = new int[CRAFTS];
    final int[][] rosters = new int[ROSTERS][MOST_PLACES];
    final int[] lengths = new int[ROSTERS];

    Crews() {
      Arrays.fill(leaders, NO_LEADER);
      Arrays.fill(lengths, NO_ROW);
    }

    boolean isMissing(int r) {
      return lengths[r] == NO_ROW;
    }

    /** Written with a difference, since a sum of large numbers would wrap around. */
    boolean hasPlaces(int r, int from, int n) {
      return n >= 0 && from >= 0 && from <= lengths[r] - n;
    }

    int handsOfDay(int craft, int day) {
      int r = leaders[craft];
      if (r == NO_LEADER || lengths[r] <= 0) {
        return toldHands[craft];
      }
      return rosters[r][day % lengths[r]];
    }
  }

  /**
   * DECREES, kept by their DAYS and, of one DAY, as they were told: whoever goes
   * through them in this row and lets each overwrite its slot has what is in force.
   */
  private static final class Decrees {
    static final int SLOTS = 2 * CRAFTS + 2;

    int size;
    final int[] slots = new int[MOST_DECREES];
    final int[] numbers = new int[MOST_DECREES];
    final int[] days = new int[MOST_DECREES];
    final int[] standing = new int[SLOTS];
    private int next;

    /** WAGE and WINE have a slot for each CRAFT; of FEAST and CROWD the CRAFT counts nothing. */
    static int slotOf(int kind, int craft) {
      switch (kind) {
        case WAGE_KIND:
          return craft;
        case WINE_KIND:
          return CRAFTS + craft;
        case FEAST_KIND:
          return 2 * CRAFTS;
        default:
          return 2 * CRAFTS + 1;
      }
    }

    void insert(int slot, int n, int day) {
      int at = size;
      while (at > 0 && days[at - 1] > day) {
        slots[at] = slots[at - 1];
        numbers[at] = numbers[at - 1];
        days[at] = days[at - 1];
        at--;
      }
      slots[at] = slot;
      numbers[at] = n;
      days[at] = day;
      size++;
    }

    /** Back ahead of all DECREES; then goOnTo may be called with DAYS that rise. */
    void rewind() {
      next = 0;
      for (int craft = 0; craft < CRAFTS; craft++) {
        standing[slotOf(WAGE_KIND, craft)] = WITHOUT_DECREE[WAGE_KIND];
        standing[slotOf(WINE_KIND, craft)] = WITHOUT_DECREE[WINE_KIND];
      }
      standing[slotOf(FEAST_KIND, 0)] = WITHOUT_DECREE[FEAST_KIND];
      standing[slotOf(CROWD_KIND, 0)] = WITHOUT_DECREE[CROWD_KIND];
    }

    void goOnTo(int day) {
      while (next < size && days[next] <= day) {
        standing[slots[next]] = numbers[next];
        next++;
      }
    }

    int inForce(int kind, int craft) {
      return standing[slotOf(kind, craft)];
    }
  }

  /** What each of some DAYS brings to a yard, worked out from HANDS and DECREES once. */
  private static final class Almanac {
    /** Of each row the HANDS of CRAFT 0, then those of CRAFT 1, .. */
    final int[] hands;
    final int[] crowds;
    final int[] wages;
    final int[] wines;

    Almanac(int rows) {
      hands = new int[rows * CRAFTS];
      crowds = new int[rows];
      wages = new int[rows];
      wines = new int[rows];
    }

    /** The DECREES must have been rewound, and DAYS written since then must have been earlier ones. */
    void write(int row, int day, Crews crews, Decrees decrees) {
      decrees.goOnTo(day);
      int feast = decrees.inForce(FEAST_KIND, 0);
      // On a FEAST nobody works at a HULL, as if the CROWD were 0.
      crowds[row] = feast != 0 && day % feast == 0 ? 0 : decrees.inForce(CROWD_KIND, 0);
      wages[row] = 0;
      wines[row] = 0;
      for (int craft = 0; craft < CRAFTS; craft++) {
        int here = crews.handsOfDay(craft, day);
        hands[row * CRAFTS + craft] = here;
        wages[row] += here * decrees.inForce(WAGE_KIND, craft);
        wines[row] += here * decrees.inForce(WINE_KIND, craft);
      }
    }
  }

  /** TASKS of the SORTS in the BASINS, as they are told now. */
  private static final class Tasks {
    final int[][] craft = new int[SORTS][BASINS];
    final int[][] work = new int[SORTS][BASINS];
    /** Of each SORT the GOODS of BASIN 0, then those of BASIN 1, .. */
    final int[][] need = new int[SORTS][BASINS * GOODS];
  }

  /** A HULL, with its TASK as it was told when it came into its BASIN. */
  private static final class Hull {
    int sort;
    int rank;
    int due;
    int state;
    int basin;
    int craft;
    int work;
    boolean taken;
    int lacks;
    int readySince;
    boolean felled;
    final int[] need = new int[GOODS];
    final int[] neededInAll = new int[GOODS];

    boolean isUnderWay() {
      return state == WAITING || state == IN;
    }

    void begin(int itsSort, int itsRank, int itsDue) {
      sort = itsSort;
      rank = itsRank;
      due = itsDue;
      state = WAITING;
      basin = NONE;
      readySince = NONE;
    }

    void become(Hull other) {
      begin(other.sort, other.rank, other.due);
      state = other.state;
      basin = other.basin;
      craft = other.craft;
      work = other.work;
      taken = other.taken;
      lacks = other.lacks;
      readySince = other.readySince;
      felled = other.felled;
      System.arraycopy(other.need, 0, need, 0, GOODS);
      System.arraycopy(other.neededInAll, 0, neededInAll, 0, GOODS);
    }

    void enter(int itsBasin, Tasks tasks) {
      state = IN;
      basin = itsBasin;
      craft = tasks.craft[sort][itsBasin];
      work = tasks.work[sort][itsBasin];
      taken = false;
      for (int good = 0; good < GOODS; good++) {
        need[good] = tasks.need[sort][itsBasin * GOODS + good];
        neededInAll[good] += need[good];
      }
    }

    void leave(int day) {
      state = READY;
      basin = NONE;
      taken = false;
      readySince = day;
    }

    boolean mayMoveOn() {
      return taken && work == 0;
    }
  }

  /** BASINS, HULLS and STOCK, and what a DAY does to them. */
  private static final class Yard {
    final int[] stock = new int[GOODS];
    final int[] berths = new int[BASINS];
    final int[] planks = new int[BASINS];
    final Hull[] hulls = new Hull[MOST_HULLS];
    int hullCount;
    /** The HULLS that are WAITING or IN, the first ones first. */
    final int[] line = new int[MOST_HULLS];
    int lineLength;
    int paid;
    int dry;
    int idle;
    /** Whether a HULL moved, took GOODS or was worked at on the DAY that passed last. */
    boolean stirred;
    private final int[] handsLeft = new int[CRAFTS];

    Yard() {
      Arrays.fill(berths, EMPTY_BERTH);
      for (int h = 0; h < MOST_HULLS; h++) {
        hulls[h] = new Hull();
      }
    }

    int addHull(int sort, int rank, int due) {
      hulls[hullCount].begin(sort, rank, due);
      hullCount++;
      return hullCount - 1;
    }

    int countOf(int state) {
      int found = 0;
      for (int h = 0; h < hullCount; h++) {
        if (hulls[h].state == state) {
          found++;
        }
      }
      return found;
    }

    /** Puts a GOOD into STOCK as far as there is room: how much came. */
    int store(int good, int n) {
      int came = Math.min(n, MOST_STOCK - stock[good]);
      stock[good] += came;
      return came;
    }

    /** PRIORITIES don't change while DAYS pass, so the line is made once ahead of them. */
    void lineUp() {
      lineLength = 0;
      for (int h = 0; h < hullCount; h++) {
        if (hulls[h].isUnderWay()) {
          int at = lineLength;
          while (at > 0 && hulls[line[at - 1]].rank < hulls[h].rank) {
            line[at] = line[at - 1];
            at--;
          }
          line[at] = h;
          lineLength++;
        }
      }
    }

    /** Becomes as the other yard is, but with a line of its own; HULLS outside the line count nothing. */
    void become(Yard other, int[] itsLine, int itsLength) {
      System.arraycopy(other.stock, 0, stock, 0, GOODS);
      System.arraycopy(other.berths, 0, berths, 0, BASINS);
      System.arraycopy(itsLine, 0, line, 0, itsLength);
      lineLength = itsLength;
      for (int i = 0; i < itsLength; i++) {
        hulls[line[i]].become(other.hulls[line[i]]);
      }
    }

    /** One DAY of an almanac passes: how many HULLS became READY. */
    int passDay(int day, Almanac almanac, int row, Tasks tasks) {
      stirred = false;
      int readied = moveOn(day, tasks);
      letIn(tasks);
      takeGoods();
      doWork(almanac.hands, row * CRAFTS, almanac.crowds[row]);
      paid += almanac.wages[row];
      drink(almanac.wines[row]);
      return readied;
    }

    private int moveOn(int day, Tasks tasks) {
      int readied = 0;
      for (int basin = BASINS - 1; basin >= 0; basin--) {
        int h = berths[basin];
        if (h < 0 || !hulls[h].mayMoveOn()) {
          continue;
        }
        if (basin == BASINS - 1) {
          berths[basin] = EMPTY_BERTH;
          hulls[h].leave(day);
          readied++;
          stirred = true;
        } else if (berths[basin + 1] == EMPTY_BERTH) {
          berths[basin] = EMPTY_BERTH;
          berth(h, basin + 1, tasks);
        }
      }
      return readied;
    }

    private void letIn(Tasks tasks) {
      for (int i = 0; i < lineLength && berths[0] == EMPTY_BERTH; i++) {
        if (hulls[line[i]].state == WAITING) {
          berth(line[i], 0, tasks);
        }
      }
    }

    private void berth(int h, int basin, Tasks tasks) {
      berths[basin] = h;
      hulls[h].enter(basin, tasks);
      stirred = true;
    }

    private void takeGoods() {
      for (int i = 0; i < lineLength; i++) {
        Hull hull = hulls[line[i]];
        if (hull.state != IN || hull.taken) {
          continue;
        }
        if (hasAll(hull.need)) {
          for (int good = 0; good < GOODS; good++) {
            stock[good] -= hull.need[good];
          }
          hull.taken = true;
          stirred = true;
        } else {
          hull.lacks++;
        }
      }
    }

    private boolean hasAll(int[] need) {
      for (int good = 0; good < GOODS; good++) {
        if (stock[good] < need[good]) {
          return false;
        }
      }
      return true;
    }

    /** A HULL has one TASK of one CRAFT, so one way along the line serves all CRAFTS. */
    private void doWork(int[] hands, int from, int crowd) {
      System.arraycopy(hands, from, handsLeft, 0, CRAFTS);
      for (int i = 0; i < lineLength; i++) {
        Hull hull = hulls[line[i]];
        if (hull.state == IN && hull.taken && hull.work > 0) {
          int sent = Math.min(Math.min(handsLeft[hull.craft], crowd), hull.work);
          handsLeft[hull.craft] -= sent;
          hull.work -= sent;
          stirred = stirred || sent > 0;
        }
      }
      for (int craft = 0; craft < CRAFTS; craft++) {
        idle += handsLeft[craft];
      }
    }

    private void drink(int wine) {
      int drunk = Math.min(wine, stock[WINE_GOOD]);
      stock[WINE_GOOD] -= drunk;
      dry += wine - drunk;
    }
  }

  /** TREES, and the HULLS for whose PARTS they are FELLED. */
  private static final class Grove {
    int size;
    final int[] woods = new int[MOST_TREES];
    final int[] bends = new int[MOST_TREES];
    final int[] girths = new int[MOST_TREES];
    final int[] hulls = new int[MOST_TREES];
    final int[] places = new int[MOST_TREES];
    final int[] growths = new int[WOODS];

    int plant(int wood, int bend, int girth) {
      woods[size] = wood;
      bends[size] = bend;
      girths[size] = girth;
      hulls[size] = NONE;
      places[size] = NONE;
      size++;
      return size - 1;
    }

    boolean stands(int tree) {
      return hulls[tree] == NONE;
    }

    int standing() {
      int found = 0;
      for (int tree = 0; tree < size; tree++) {
        if (stands(tree)) {
          found++;
        }
      }
      return found;
    }

    void grow() {
      for (int tree = 0; tree < size; tree++) {
        if (stands(tree)) {
          girths[tree] += growths[woods[tree]];
        }
      }
    }

    void fellFor(int tree, int hull, int place) {
      hulls[tree] = hull;
      places[tree] = place;
    }

    int felledFor(int hull, int place) {
      for (int tree = 0; tree < size; tree++) {
        if (hulls[tree] == hull && places[tree] == place) {
          return tree;
        }
      }
      return NONE;
    }
  }

  /** PARTS of the SORTS. */
  private static final class Parts {
    final int[] sizes = new int[SORTS];
    final int[] woods = new int[SORTS * MOST_PARTS];
    final int[] bends = new int[SORTS * MOST_PARTS];
    final int[] spans = new int[SORTS * MOST_PARTS];
    final int[] girths = new int[SORTS * MOST_PARTS];

    int add(int sort, int wood, int bend, int span, int girth) {
      int at = sort * MOST_PARTS + sizes[sort];
      woods[at] = wood;
      bends[at] = bend;
      spans[at] = span;
      girths[at] = girth;
      sizes[sort]++;
      return sizes[sort] - 1;
    }
  }

  /**
   * The MATCH of a SORT. What makes one MATCH better than another is put into one
   * number, the less the better: how many PARTS lack a TREE, then WASTE, then the
   * TREES by PARTS as digits (none being the greatest digit). It is a sum over the
   * PARTS, so the least one can be found TREE by TREE over the sets of PARTS.
   */
  private static final class Matching {
    static final int BASE = MOST_TREES + 1;
    static final int NO_TREE_DIGIT = MOST_TREES;
    /** What a digit of PART i weighs. */
    static final long[] WEIGHTS = {115856201L, 2825761L, 68921L, 1681L, 41L, 1L};
    static final long WASTE_UNIT = 4750104241L;
    /** Above the WASTE of 6 PARTS: a TREE of 500 grows by 9 a YEAR for 5 YEARS. */
    static final int WASTE_BOUND = 4096;
    static final long LACK_UNIT = WASTE_BOUND * WASTE_UNIT;
    static final long UNREACHED = 1L << 62;

    int matched;
    int waste;
    final int[] treeOfPart = new int[MOST_PARTS];
    private final long[] least = new long[1 << MOST_PARTS];
    private final long[] changes = new long[MOST_PARTS];

    void solve(Grove grove, Parts parts, int sort) {
      int n = parts.sizes[sort];
      int sets = 1 << n;
      Arrays.fill(least, UNREACHED);
      least[0] = 0;
      for (int i = 0; i < n; i++) {
        least[0] += lackingNumber(i);
      }
      for (int tree = 0; tree < grove.size; tree++) {
        if (grove.stands(tree)) {
          offer(fitting(grove, tree, parts, sort), sets);
        }
      }
      long best = least[0];
      for (int set = 1; set < sets; set++) {
        best = Math.min(best, least[set]);
      }
      readOff(best, n);
    }

    private static long lackingNumber(int i) {
      return LACK_UNIT + NO_TREE_DIGIT * WEIGHTS[i];
    }

    /** The set of PARTS that a TREE FITS; what each of them would change is left in changes. */
    private int fitting(Grove grove, int tree, Parts parts, int sort) {
      int fits = 0;
      for (int i = 0; i < parts.sizes[sort]; i++) {
        int at = sort * MOST_PARTS + i;
        int over = grove.girths[tree] - parts.girths[at];
        if (grove.woods[tree] == parts.woods[at] && over >= 0
            && Math.abs(grove.bends[tree] - parts.bends[at]) <= parts.spans[at]) {
          fits |= 1 << i;
          changes[i] = over * WASTE_UNIT + tree * WEIGHTS[i] - lackingNumber(i);
        }
      }
      return fits;
    }

    /** Greater sets first: the lesser ones they are made from don't have this TREE yet. */
    private void offer(int fits, int sets) {
      for (int set = sets - 1; set > 0 && fits != 0; set--) {
        int usable = set & fits;
        for (int i = 0; i < MOST_PARTS; i++) {
          int bit = 1 << i;
          if ((usable & bit) != 0 && least[set ^ bit] != UNREACHED) {
            least[set] = Math.min(least[set], least[set ^ bit] + changes[i]);
          }
        }
      }
    }

    private void readOff(long best, int n) {
      waste = (int) (best / WASTE_UNIT % WASTE_BOUND);
      matched = 0;
      for (int i = 0; i < n; i++) {
        int digit = (int) (best / WEIGHTS[i] % BASE);
        treeOfPart[i] = digit == NO_TREE_DIGIT ? NONE : digit;
        if (digit != NO_TREE_DIGIT) {
          matched++;
        }
      }
    }
  }

  /** INVENTORIES. */
  private static final class Ledger {
    int size;
    final int[] goods = new int[MOST_INVENTORIES];
    final int[] days = new int[MOST_INVENTORIES];
    final int[] gaps = new int[MOST_INVENTORIES];
    final int[] begins = new int[MOST_INVENTORIES];

    void add(int good, int day, int missed) {
      goods[size] = good;
      days[size] = day;
      gaps[size] = missed;
      begins[size] = 0;
      for (int i = 0; i < size; i++) {
        if (goods[i] == good) {
          begins[size] = days[i];
        }
      }
      size++;
    }

    int worstOf(int good) {
      int found = NONE;
      for (int i = 0; i < size; i++) {
        if (goods[i] == good && gaps[i] > 0 && (found == NONE || isWorse(i, found))) {
          found = i;
        }
      }
      return found;
    }

    private boolean isWorse(int i, int other) {
      return (long) gaps[i] * spanOf(other) > (long) gaps[other] * spanOf(i);
    }

    private int spanOf(int i) {
      return Math.max(1, days[i] - begins[i]);
    }
  }

  /**
   * AHEAD: a yard of its own in which DAYS are tried. What was found is kept until
   * forget, since ready, late, least and order are often asked of one state.
   */
  private static final class Outlook {
    static final int[] ORDERS_OF = {1, 1, 2, 6, 24, 120};
    /** Above all that HULLS can be late together. */
    static final int NOT_TRIED = 1000000;

    int leastSum;
    /** The order that is least late, and how many HULLS it has. */
    final int[] leastOrder = new int[MOST_ORDERED];
    int ordered;
    private int from;
    private final Almanac almanac = new Almanac(AHEAD_DAYS);
    /** Of each CRAFT the last row of the almanac on which it can work. */
    private final int[] lastRows = new int[CRAFTS];
    private final Yard trial = new Yard();
    private final int[] readyDays = new int[MOST_HULLS];
    private final int[] tried = new int[MOST_ORDERED];
    private boolean almanacKnown;
    private boolean readyKnown;
    private boolean leastKnown;

    void forget() {
      almanacKnown = false;
      readyKnown = false;
      leastKnown = false;
    }

    /** Looks ahead from a DAY on; to be called ahead of readyDay and findLeast. */
    void standAt(int day, Crews crews, Decrees decrees) {
      if (almanacKnown) {
        return;
      }
      from = day;
      decrees.rewind();
      Arrays.fill(lastRows, -1);
      for (int row = 0; row < AHEAD_DAYS; row++) {
        almanac.write(row, from + 1 + row, crews, decrees);
        for (int craft = 0; craft < CRAFTS; craft++) {
          if (almanac.crowds[row] > 0 && almanac.hands[row * CRAFTS + craft] > 0) {
            lastRows[craft] = row;
          }
        }
      }
      almanacKnown = true;
    }

    /** The DAY on which a HULL that is WAITING or IN will be READY; NONE if not within AHEAD_DAYS. */
    int readyDay(int hull, Yard yard, Tasks tasks) {
      if (!readyKnown) {
        yard.lineUp();
        tryOut(yard, yard.line, yard.lineLength, tasks);
        for (int i = 0; i < yard.lineLength; i++) {
          readyDays[yard.line[i]] = trial.hulls[yard.line[i]].readySince;
        }
        readyKnown = true;
      }
      return readyDays[hull];
    }

    /** At most MOST_ORDERED HULLS may be WAITING or IN. */
    void findLeast(Yard yard, Tasks tasks) {
      if (leastKnown) {
        return;
      }
      gatherByNumbers(yard);
      leastSum = NOT_TRIED;
      // No order is less late than one that isn't late at all.
      for (int turn = 0; turn < ORDERS_OF[ordered] && leastSum > 0; turn++) {
        tryOut(yard, tried, ordered, tasks);
        int sum = sumOfLate();
        if (sum < leastSum) {
          leastSum = sum;
          System.arraycopy(tried, 0, leastOrder, 0, ordered);
        }
        nextOrder();
      }
      leastKnown = true;
    }

    private void gatherByNumbers(Yard yard) {
      ordered = 0;
      for (int h = 0; h < yard.hullCount && ordered < MOST_ORDERED; h++) {
        if (yard.hulls[h].isUnderWay()) {
          tried[ordered] = h;
          ordered++;
        }
      }
    }

    private int sumOfLate() {
      int sum = 0;
      for (int i = 0; i < ordered; i++) {
        Hull hull = trial.hulls[tried[i]];
        sum += lateness(hull.readySince, hull.due, from);
      }
      return sum;
    }

    /** The order behind the tried one, by numbers; behind the last one it stays. */
    private void nextOrder() {
      int at = ordered - 2;
      while (at >= 0 && tried[at] > tried[at + 1]) {
        at--;
      }
      if (at < 0) {
        return;
      }
      int other = ordered - 1;
      while (other > at + 1 && tried[other] < tried[at]) {
        other--;
      }
      swapTried(at, other);
      int high = ordered - 1;
      for (int low = at + 1; low < high; low++) {
        swapTried(low, high);
        high--;
      }
    }

    private void swapTried(int a, int b) {
      int kept = tried[a];
      tried[a] = tried[b];
      tried[b] = kept;
    }

    /** Lets DAYS pass in the trial yard until all HULLS of the line are READY or none can stir again. */
    private void tryOut(Yard yard, int[] line, int length, Tasks tasks) {
      trial.become(yard, line, length);
      int readied = 0;
      boolean alive = true;
      for (int row = 0; row < AHEAD_DAYS && readied < length && alive; row++) {
        readied += trial.passDay(from + 1 + row, almanac, row, tasks);
        alive = trial.stirred || workIsAhead(row);
      }
    }

    /**
     * Whether hands will yet come to a HULL. STOCK never rises AHEAD, so without
     * that a DAY on which nothing stirred is followed by none on which something does.
     */
    private boolean workIsAhead(int row) {
      for (int i = 0; i < trial.lineLength; i++) {
        Hull hull = trial.hulls[trial.line[i]];
        if (hull.state == IN && hull.taken && hull.work > 0 && lastRows[hull.craft] > row) {
          return true;
        }
      }
      return false;
    }
  }
}
