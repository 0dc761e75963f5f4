import java.util.ArrayList;
import java.util.List;

/** Objects to begin a test with, and all that can be seen of one. */
final class Settings {
  interface Setting {
    ArsenalRow make();
  }

  interface Script {
    void play(Calls x);
  }

  interface Look {
    List<Integer> of(Calls x);
  }

  /** Two looks, since an object has 512 calls; the second one changes the object as it looks. */
  static final Look[] LOOKS = {Settings::open, Settings::hidden};

  private Settings() {
  }

  /**
   * DAY 16. HULL 0 is BROKEN, 1 READY, 2 and 3 are IN (BASINS 2 and 1), 4 WAITING; RAFTS lie
   * in BASINS 0 and 4. ROSTER 0 is MISSING, 1 empty, 2 has 3 numbers, 3 has 30. SORTS have 2, 1
   * and 0 PARTS. TREE 0 is FELLED for HULL 2; 5 TREES, 3 INVENTORIES, 5 DECREES.
   */
  static void busy(Calls x) {
    x.call("hands", 0, 10);
    x.call("hands", 1, 20);
    x.call("hands", 3, 5);
    for (int good = 0; good < 6; good++) x.call("bring", good, 1000 + good);
    x.call("row", 1, 0);
    x.call("row", 2, 3);
    for (int place = 0; place < 3; place++) x.call("put", 2, place, 11 + place);
    x.call("row", 3, 30);
    x.call("put", 3, 0, 1);
    x.call("put", 3, 29, 400);
    x.call("lead", 1, 2);
    x.call("lead", 2, 0);
    x.call("decree", 0, 0, 5, 0);
    x.call("decree", 1, 1, 1, 0);
    x.call("decree", 2, 0, 60, 0);
    x.call("decree", 3, 0, 50, 8);
    x.call("decree", 0, 0, 7, 100);
    x.call("task", 0, 0, 0, 10);
    x.call("task", 0, 5, 1, 11);
    x.call("task", 1, 2, 0, 2000);
    x.call("task", 2, 0, 3, 5);
    x.call("needs", 0, 0, 1, 7);
    x.call("needs", 1, 1, 5, 3);
    x.call("needs", 2, 3, 2, 500);
    x.call("hull", 0, 99, 10);
    x.call("hull", 0, 98, 5);
    x.call("days", 10);
    x.call("breakUp", 0);
    x.call("hull", 1, 50, 20);
    x.call("hull", 1, 40, 2000);
    x.call("days", 4);
    x.call("raft", 0, 100);
    x.call("raft", 4, 50);
    x.call("hull", 2, 30, 0);
    x.call("part", 0, 0, 0, 3, 10);
    x.call("part", 0, 1, -9, 0, 20);
    x.call("part", 1, 0, 2, 1, 30);
    x.call("tree", 0, 2, 30);
    x.call("tree", 0, 1, 12);
    x.call("tree", 1, -9, 500);
    x.call("tree", 2, 9, 1);
    x.call("tree", 0, 3, 31);
    x.call("growth", 0, 3);
    x.call("growth", 2, 9);
    x.call("fell", 2);
    x.call("count", 0, 700);
    x.call("days", 2);
    x.call("count", 0, 690);
    x.call("count", 5, 1000);
  }

  static ArsenalRow busy() {
    ArsenalRow x = new ArsenalRow();
    busy(Calls.of(x));
    return x;
  }

  /** As many DECREES, HULLS, TREES, PARTS, INVENTORIES, PLACES and GOODS as there may be. */
  static void full(Calls x) {
    for (int k = 0; k < 40; k++) x.call("decree", k % 4, k / 10, 1 + k % 9, k * 50);
    for (int h = 0; h < 16; h++) x.call("hull", h % 3, 99 - h, 2000);
    for (int t = 0; t < 40; t++) x.call("tree", t % 3, t % 19 - 9, 1 + t * 12);
    for (int k = 0; k < 18; k++) x.call("part", k % 3, k / 6, k % 19 - 9, k % 10, 1 + k * 20);
    for (int k = 0; k < 40; k++) x.call("count", k % 6, 1000000 - k);
    for (int r = 0; r < 4; r++) x.call("row", r, 30);
    for (int good = 0; good < 6; good++) x.call("bring", good, 1000000 - x.call("stock", good));
  }

  static ArsenalRow full() {
    ArsenalRow x = new ArsenalRow();
    full(Calls.of(x));
    return x;
  }

  static List<Integer> open(Calls x) {
    List<Integer> seen = new ArrayList<>();
    for (int what = 0; what < 9; what++) seen.add(x.call("told", what));
    for (int good = 0; good < 6; good++) {
      seen.add(x.call("stock", good));
      seen.add(x.call("worst", good));
    }
    for (int basin = 0; basin < 6; basin++) {
      for (int what = 0; what < 3; what++) seen.add(x.call("basinOf", basin, what));
    }
    for (int hull = 0; hull < x.call("told", 1) && hull < 6; hull++) {
      for (int what = 0; what < 9; what++) seen.add(x.call("hullOf", hull, what));
      for (int i = 0; i < 6; i++) seen.add(x.call("treeFor", hull, i));
      seen.add(x.call("ready", hull));
      seen.add(x.call("late", hull));
    }
    for (int tree = 0; tree < 6; tree++) {
      for (int what = 0; what < 5; what++) seen.add(x.call("treeOf", tree, what));
    }
    for (int i = 0; i < 4; i++) {
      for (int what = 0; what < 4; what++) seen.add(x.call("gap", i, what));
    }
    for (int sort = 0; sort < 3; sort++) {
      for (int what = 0; what < 8; what++) seen.add(x.call("match", sort, what));
    }
    seen.add(x.call("least"));
    for (int i = 0; i < 6; i++) seen.add(x.call("order", i));
    return seen;
  }

  static List<Integer> hidden(Calls x) {
    List<Integer> seen = new ArrayList<>();
    int[] days = {0, 17, 31, 2000};
    for (int craft = 0; craft < 4; craft++) {
      for (int day : days) seen.add(x.call("handsOn", craft, day));
      for (int kind = 0; kind < 4; kind++) {
        seen.add(x.call("force", kind, craft, 16));
        seen.add(x.call("force", kind, craft, 2000));
      }
      seen.add(x.call("hands", craft, 0));
      seen.add(x.call("lead", craft, -1));
    }
    for (int r = 0; r < 4; r++) {
      for (int place = 0; place <= 30; place++) seen.add(x.call("put", r, place, 0));
    }
    for (int wood = 0; wood < 3; wood++) seen.add(x.call("growth", wood, 0));
    for (int hull = 0; hull < 6; hull++) seen.add(x.call("fell", hull));
    for (int sort = 0; sort < 3; sort++) {
      for (int basin = 0; basin < 6; basin++) {
        seen.add(x.call("task", sort, basin, 0, 0));
        for (int good = 0; good < 6; good++) seen.add(x.call("needs", sort, basin, good, 0));
      }
    }
    return seen;
  }
}
