import java.util.ArrayList;
import java.util.List;

/**
 * The document once more, as slowly and plainly as its words: no row is kept
 * sorted, nothing is remembered between calls, AHEAD copies everything, a MATCH
 * is sought among all. The tests compare ArsenalRow with it.
 */
final class PlainArsenal implements Calls {
  static final class Ship {
    int sort, priority, due, state, basin = -9, craft, work, lack, since = -9;
    boolean taken, felled;
    int[] need = new int[6];
    List<int[]> history = new ArrayList<>();
    int[] trees = {-9, -9, -9, -9, -9, -9};

    Ship twin() {
      Ship t = new Ship();
      t.sort = sort; t.priority = priority; t.due = due; t.state = state; t.basin = basin;
      t.craft = craft; t.work = work; t.lack = lack; t.since = since; t.taken = taken; t.felled = felled;
      t.need = need.clone(); t.history = new ArrayList<>(history); t.trees = trees.clone();
      return t;
    }
  }

  int day, paid, dry, idle;
  int[] hands = new int[4], lead = {-1, -1, -1, -1}, stock = new int[6], planks = new int[6];
  int[][] rosters = new int[4][];
  List<int[]> decrees = new ArrayList<>(); // kind, craft, number, day
  int[][] taskCraft = new int[3][6], taskWork = new int[3][6];
  int[][][] taskNeed = new int[3][6][6];
  List<Ship> ships = new ArrayList<>();
  int[] growth = new int[3];
  List<int[]> trees = new ArrayList<>(); // wood, bend, girth, hull, part
  List<List<int[]>> parts = List.of(new ArrayList<>(), new ArrayList<>(), new ArrayList<>()); // wood, bend, span, girth
  List<int[]> inventories = new ArrayList<>(); // good, day, gap, begin
  int[] refusals = new int[8];

  private static boolean in(int n, int least, int most) {
    return n >= least && n <= most;
  }

  private int no(int code) {
    refusals[-code]++;
    return code;
  }

  private int noAside(int code) {
    return 2000000000 - no(code);
  }

  @Override
  public int call(String name, int... a) {
    switch (name) {
      case "hands": {
        if (!in(a[0], 0, 3)) return no(-1);
        if (a[1] < 0) return no(-4);
        if (a[1] > 400) return no(-6);
        int was = hands[a[0]];
        hands[a[0]] = a[1];
        return was;
      }
      case "bring": {
        if (!in(a[0], 0, 5)) return no(-1);
        if (a[1] < 0) return no(-4);
        if ((long) stock[a[0]] + a[1] > 1000000) return no(-6);
        return stock[a[0]] += a[1];
      }
      case "row": {
        if (!in(a[0], 0, 3)) return no(-1);
        if (a[1] < 0) return no(-4);
        if (a[1] > 30) return no(-6);
        rosters[a[0]] = new int[a[1]];
        return a[1];
      }
      case "lose": {
        if (!in(a[0], 0, 3)) return no(-1);
        boolean was = rosters[a[0]] != null;
        rosters[a[0]] = null;
        return was ? 1 : 0;
      }
      case "put": {
        if (!in(a[0], 0, 3)) return no(-1);
        if (rosters[a[0]] == null) return no(-5);
        if (!in(a[1], 0, rosters[a[0]].length - 1)) return no(-7);
        if (a[2] < 0) return no(-4);
        if (a[2] > 400) return no(-6);
        int was = rosters[a[0]][a[1]];
        rosters[a[0]][a[1]] = a[2];
        return was;
      }
      case "copy": {
        if (!in(a[0], 0, 3) || !in(a[2], 0, 3)) return no(-1);
        int[] r = rosters[a[0]], s = rosters[a[2]];
        if (r == null || s == null) return no(-5);
        long n = a[4];
        if (n < 0 || a[1] < 0 || a[3] < 0 || a[1] + n > r.length || a[3] + n > s.length) return no(-7);
        int[] old = r.clone();
        for (int k = 0; k < n; k++) s[a[3] + k] = old[a[1] + k];
        return a[4];
      }
      case "lead": {
        if (!in(a[0], 0, 3) || !in(a[1], -1, 3)) return noAside(-1);
        int was = lead[a[0]];
        lead[a[0]] = a[1];
        return was;
      }
      case "handsOn": {
        if (!in(a[0], 0, 3)) return no(-1);
        if (a[1] < 0) return no(-4);
        if (a[1] > 2000) return no(-6);
        return handsAt(a[0], a[1]);
      }
      case "decree": {
        if (!in(a[0], 0, 3) || !in(a[1], 0, 3)) return no(-1);
        int[] low = {0, 0, 0, 1}, high = {100, 9, 60, 200};
        if (a[2] < low[a[0]] || a[3] < day) return no(-4);
        if (a[2] > high[a[0]] || a[3] > 2000 || decrees.size() == 40) return no(-6);
        decrees.add(a.clone());
        return decrees.size() - 1;
      }
      case "force": {
        if (!in(a[0], 0, 3) || !in(a[1], 0, 3)) return no(-1);
        if (a[2] < 0) return no(-4);
        if (a[2] > 2000) return no(-6);
        return forceAt(a[0], a[1], a[2]);
      }
      case "task": {
        if (!in(a[0], 0, 2) || !in(a[1], 0, 5) || !in(a[2], 0, 3)) return no(-1);
        if (a[3] < 0) return no(-4);
        if (a[3] > 2000) return no(-6);
        int was = taskWork[a[0]][a[1]];
        taskCraft[a[0]][a[1]] = a[2];
        taskWork[a[0]][a[1]] = a[3];
        return was;
      }
      case "needs": {
        if (!in(a[0], 0, 2) || !in(a[1], 0, 5) || !in(a[2], 0, 5)) return no(-1);
        if (a[3] < 0) return no(-4);
        if (a[3] > 500) return no(-6);
        int was = taskNeed[a[0]][a[1]][a[2]];
        taskNeed[a[0]][a[1]][a[2]] = a[3];
        return was;
      }
      default:
        return callYard(name, a);
    }
  }

  private int callYard(String name, int... a) {
    switch (name) {
      case "hull": {
        if (!in(a[0], 0, 2)) return no(-1);
        if (a[1] < 0 || a[2] < 0) return no(-4);
        if (a[1] > 99 || a[2] > 2000 || ships.size() == 16) return no(-6);
        Ship s = new Ship();
        s.sort = a[0]; s.priority = a[1]; s.due = a[2];
        ships.add(s);
        return ships.size() - 1;
      }
      case "priority": {
        if (!isShip(a[0])) return no(-1);
        Ship s = ships.get(a[0]);
        if (s.state >= 2) return no(-3);
        if (a[1] < 0) return no(-4);
        if (a[1] > 99) return no(-6);
        int was = s.priority;
        s.priority = a[1];
        return was;
      }
      case "raft": {
        if (!in(a[0], 0, 5)) return no(-1);
        if (whatIn(a[0]) != 0) return no(-3);
        if (a[1] < 1) return no(-4);
        if (a[1] > 1000) return no(-6);
        if (stock[0] < a[1]) return no(-3);
        stock[0] -= a[1];
        planks[a[0]] = a[1];
        return 1;
      }
      case "unraft": {
        if (!in(a[0], 0, 5)) return no(-1);
        if (whatIn(a[0]) == 0) return no(-3);
        if (whatIn(a[0]) == 1) return no(-2);
        int had = planks[a[0]];
        planks[a[0]] = 0;
        stock[0] = Math.min(1000000, stock[0] + had);
        return had;
      }
      case "days": {
        if (a[0] < 0) return no(-4);
        if ((long) day + a[0] > 2000) return no(-6);
        int before = readyOnes();
        for (int k = 0; k < a[0]; k++) pass();
        return readyOnes() - before;
      }
      case "breakUp": {
        if (!isShip(a[0])) return no(-1);
        Ship s = ships.get(a[0]);
        if (s.state != 2) return no(-3);
        s.state = 3;
        int came = 0;
        for (int g = 0; g < 6; g++) {
          int sum = 0;
          for (int[] task : s.history) sum += task[g];
          int now = Math.min(1000000, stock[g] + sum / 2);
          came += now - stock[g];
          stock[g] = now;
        }
        return came;
      }
      case "ready": {
        if (!isShip(a[0])) return no(-1);
        Ship s = ships.get(a[0]);
        if (s.state == 3) return no(-3);
        if (s.state == 2) return s.since;
        PlainArsenal ahead = twin();
        for (int k = 0; k < 300; k++) ahead.pass();
        return ahead.ships.get(a[0]).since;
      }
      case "late": {
        if (!isShip(a[0])) return no(-1);
        if (ships.get(a[0]).state >= 2) return no(-3);
        PlainArsenal ahead = twin();
        for (int k = 0; k < 300; k++) ahead.pass();
        return ahead.lateOf(a[0], day);
      }
      case "least":
      case "order": {
        List<Integer> live = new ArrayList<>();
        for (int h = 0; h < ships.size(); h++) if (ships.get(h).state < 2) live.add(h);
        if (live.size() > 5) return no(-3);
        best = Integer.MAX_VALUE;
        tryOrders(live, new ArrayList<>());
        if (name.equals("least")) return best;
        return in(a[0], 0, bestOrder.size() - 1) ? bestOrder.get(a[0]) : -9;
      }
      default:
        return callWoods(name, a);
    }
  }

  private int callWoods(String name, int... a) {
    switch (name) {
      case "growth": {
        if (!in(a[0], 0, 2)) return no(-1);
        if (a[1] < 0) return no(-4);
        if (a[1] > 9) return no(-6);
        int was = growth[a[0]];
        growth[a[0]] = a[1];
        return was;
      }
      case "tree": {
        if (!in(a[0], 0, 2)) return no(-1);
        if (a[1] < -9 || a[2] < 1) return no(-4);
        if (a[1] > 9 || a[2] > 500 || trees.size() == 40) return no(-6);
        trees.add(new int[] {a[0], a[1], a[2], -9, -9});
        return trees.size() - 1;
      }
      case "part": {
        if (!in(a[0], 0, 2) || !in(a[1], 0, 2)) return no(-1);
        if (a[2] < -9 || a[3] < 0 || a[4] < 1) return no(-4);
        if (a[2] > 9 || a[3] > 9 || a[4] > 500 || parts.get(a[0]).size() == 6) return no(-6);
        parts.get(a[0]).add(new int[] {a[1], a[2], a[3], a[4]});
        return parts.get(a[0]).size() - 1;
      }
      case "match": {
        if (!in(a[0], 0, 2)) return no(-1);
        if (!in(a[1], 0, parts.get(a[0]).size() + 1)) return no(-2);
        seekMatch(a[0]);
        return a[1] == 0 ? bestMatched : a[1] == 1 ? bestWaste : bestTrees[a[1] - 2];
      }
      case "fell": {
        if (!isShip(a[0])) return no(-1);
        Ship s = ships.get(a[0]);
        if (s.state >= 2 || s.felled) return no(-3);
        seekMatch(s.sort);
        s.felled = true;
        for (int i = 0; i < parts.get(s.sort).size(); i++) {
          s.trees[i] = bestTrees[i];
          if (bestTrees[i] != -9) {
            trees.get(bestTrees[i])[3] = a[0];
            trees.get(bestTrees[i])[4] = i;
          }
        }
        return bestMatched;
      }
      case "treeFor": {
        if (!isShip(a[0])) return no(-1);
        if (a[1] < 0) return no(-4);
        if (a[1] > 5) return no(-6);
        return ships.get(a[0]).trees[a[1]];
      }
      case "treeOf": {
        if (!in(a[0], 0, trees.size() - 1)) return noAside(-1);
        if (!in(a[1], 0, 4)) return noAside(-2);
        return trees.get(a[0])[new int[] {0, 2, 3, 4, 1}[a[1]]];
      }
      default:
        return callBooks(name, a);
    }
  }

  private int callBooks(String name, int... a) {
    switch (name) {
      case "count": {
        if (!in(a[0], 0, 5)) return noAside(-1);
        if (a[1] < 0) return noAside(-4);
        if (a[1] > 1000000 || inventories.size() == 40) return noAside(-6);
        int begin = 0;
        for (int[] one : inventories) if (one[0] == a[0]) begin = one[1];
        int gap = stock[a[0]] - a[1];
        stock[a[0]] = a[1];
        inventories.add(new int[] {a[0], day, gap, begin});
        return gap;
      }
      case "gap": {
        if (!in(a[0], 0, inventories.size() - 1)) return noAside(-1);
        if (!in(a[1], 0, 3)) return noAside(-2);
        return inventories.get(a[0])[a[1]];
      }
      case "worst": {
        if (!in(a[0], 0, 5)) return no(-1);
        int found = -9;
        // Fractions compared with the common denominator of all DAYS up to 2000 would be
        // huge; a double has 53 bits, and two unlike fractions here differ by 1 / 4000000 or more.
        double worst = 0;
        for (int k = 0; k < inventories.size(); k++) {
          int[] one = inventories.get(k);
          double share = one[2] / (double) Math.max(1, one[1] - one[3]);
          if (one[0] == a[0] && share > worst + 1e-8) {
            worst = share;
            found = k;
          }
        }
        return found;
      }
      case "hullOf": {
        if (!isShip(a[0])) return no(-1);
        if (!in(a[1], 0, 8)) return no(-2);
        Ship s = ships.get(a[0]);
        boolean inside = s.state == 1;
        return new int[] {s.state, inside ? s.basin : -9, inside ? s.work : 0, inside && s.taken ? 1 : 0,
            s.lack, s.priority, s.sort, s.due, s.since}[a[1]];
      }
      case "basinOf": {
        if (!in(a[0], 0, 5)) return no(-1);
        if (!in(a[1], 0, 2)) return no(-2);
        return new int[] {whatIn(a[0]), shipIn(a[0]), planks[a[0]]}[a[1]];
      }
      case "stock":
        return in(a[0], 0, 5) ? stock[a[0]] : no(-1);
      case "told": {
        int standing = 0;
        for (int[] t : trees) if (t[3] == -9) standing++;
        int[] all = {day, ships.size(), readyOnes(), standing, paid, dry, idle, decrees.size(), inventories.size()};
        return in(a[0], 0, 8) ? all[a[0]] : in(a[0], 11, 17) ? refusals[a[0] - 10] : -9;
      }
      default:
        throw new IllegalArgumentException(name);
    }
  }

  private boolean isShip(int h) {
    return in(h, 0, ships.size() - 1);
  }

  private int shipIn(int basin) {
    for (int h = 0; h < ships.size(); h++) if (ships.get(h).state == 1 && ships.get(h).basin == basin) return h;
    return -9;
  }

  private int whatIn(int basin) {
    return shipIn(basin) != -9 ? 1 : planks[basin] > 0 ? 2 : 0;
  }

  private int readyOnes() {
    int n = 0;
    for (Ship s : ships) if (s.state == 2) n++;
    return n;
  }

  private int handsAt(int craft, int onDay) {
    if (lead[craft] == -1) return hands[craft];
    int[] row = rosters[lead[craft]];
    return row == null || row.length == 0 ? hands[craft] : row[onDay % row.length];
  }

  private int forceAt(int kind, int craft, int onDay) {
    int from = -1, number = kind == 3 ? 60 : 0;
    for (int[] d : decrees) {
      if (d[0] == kind && (kind >= 2 || d[1] == craft) && d[3] <= onDay && d[3] >= from) {
        from = d[3];
        number = d[2];
      }
    }
    return number;
  }

  private void enter(Ship s, int basin) {
    s.state = 1;
    s.basin = basin;
    s.craft = taskCraft[s.sort][basin];
    s.work = taskWork[s.sort][basin];
    s.need = taskNeed[s.sort][basin].clone();
    s.history.add(s.need);
    s.taken = false;
  }

  private List<Ship> firstOnesFirst() {
    List<Ship> row = new ArrayList<>(ships);
    row.sort((x, y) -> x.priority != y.priority ? y.priority - x.priority : ships.indexOf(x) - ships.indexOf(y));
    return row;
  }

  private void pass() {
    day++;
    for (int b = 5; b >= 0; b--) {
      if (whatIn(b) != 1) continue;
      Ship s = ships.get(shipIn(b));
      if (!s.taken || s.work != 0) continue;
      if (b == 5) {
        s.state = 2;
        s.since = day;
      } else if (whatIn(b + 1) == 0) {
        enter(s, b + 1);
      }
    }
    List<Ship> row = firstOnesFirst();
    for (Ship s : row) if (whatIn(0) == 0 && s.state == 0) enter(s, 0);
    for (Ship s : row) {
      if (s.state != 1 || s.taken) continue;
      boolean all = true;
      for (int g = 0; g < 6; g++) all &= stock[g] >= s.need[g];
      if (all) {
        for (int g = 0; g < 6; g++) stock[g] -= s.need[g];
        s.taken = true;
      } else {
        s.lack++;
      }
    }
    int feast = forceAt(2, 0, day);
    boolean feasting = feast != 0 && day % feast == 0;
    for (int c = 0; c < 4; c++) {
      int left = handsAt(c, day);
      for (Ship s : row) {
        if (feasting || s.state != 1 || s.craft != c || !s.taken) continue;
        int sent = Math.min(left, Math.min(forceAt(3, c, day), s.work));
        s.work -= sent;
        left -= sent;
      }
      idle += left;
    }
    for (int c = 0; c < 4; c++) {
      paid += handsAt(c, day) * forceAt(0, c, day);
      int wine = handsAt(c, day) * forceAt(1, c, day);
      int lacks = Math.max(0, wine - stock[5]);
      dry += lacks;
      stock[5] -= wine - lacks;
    }
    if (day % 360 == 0) for (int[] t : trees) if (t[3] == -9) t[2] += growth[t[0]];
  }

  private PlainArsenal twin() {
    PlainArsenal t = new PlainArsenal();
    t.day = day;
    t.hands = hands.clone(); t.lead = lead.clone(); t.stock = stock.clone(); t.planks = planks.clone();
    t.rosters = rosters; t.decrees = decrees;
    t.taskCraft = taskCraft; t.taskWork = taskWork; t.taskNeed = taskNeed;
    for (Ship s : ships) t.ships.add(s.twin());
    return t;
  }

  private int lateOf(int h, int from) {
    Ship s = ships.get(h);
    return Math.max(0, (s.since == -9 ? from + 301 : s.since) - s.due);
  }

  private int best;
  private List<Integer> bestOrder;

  private void tryOrders(List<Integer> left, List<Integer> order) {
    if (left.isEmpty()) {
      PlainArsenal ahead = twin();
      for (int k = 0; k < order.size(); k++) ahead.ships.get(order.get(k)).priority = 99 - k;
      for (int k = 0; k < 300; k++) ahead.pass();
      int sum = 0;
      for (int h : order) sum += ahead.lateOf(h, day);
      if (sum < best) {
        best = sum;
        bestOrder = new ArrayList<>(order);
      }
      return;
    }
    for (int k = 0; k < left.size(); k++) {
      List<Integer> rest = new ArrayList<>(left);
      order.add(rest.remove(k));
      tryOrders(rest, order);
      order.remove(order.size() - 1);
    }
  }

  private int bestMatched, bestWaste;
  private int[] bestTrees = new int[6];

  private void seekMatch(int sort) {
    bestMatched = -1;
    bestWaste = 0;
    seek(parts.get(sort), 0, new int[6], 0, 0);
  }

  /** In the order of the document, so that of several the first is kept. */
  private void seek(List<int[]> row, int i, int[] chosen, int matched, int waste) {
    int can = matched + row.size() - i;
    if (can < bestMatched || can == bestMatched && waste >= bestWaste) return;
    if (i == row.size()) {
      bestMatched = matched;
      bestWaste = waste;
      bestTrees = chosen.clone();
      return;
    }
    int[] p = row.get(i);
    for (int t = 0; t < trees.size(); t++) {
      int[] tree = trees.get(t);
      boolean fits = tree[3] == -9 && tree[0] == p[0] && Math.abs(tree[1] - p[1]) <= p[2] && tree[2] >= p[3];
      for (int k = 0; k < i; k++) fits &= chosen[k] != t;
      if (!fits) continue;
      chosen[i] = t;
      seek(row, i + 1, chosen, matched + 1, waste + tree[2] - p[3]);
    }
    chosen[i] = -9;
    seek(row, i + 1, chosen, matched, waste);
  }
}
