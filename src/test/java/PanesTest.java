/** Promises 1 to 10: a new object, panes, heirs. */
public final class PanesTest {
  private static void due(String call, long got, long want) {
    Due.due(call, got, want);
  }

  public static void main(String[] args) {
    aNewObject();
    heir();
    pane();
    paneIs();
    become();
    as();
    wipe();
    names();
    has();
    set();
    Due.end("PanesTest");
  }

  private static void aNewObject() {
    FrostWills x = new FrostWills();
    int[] want = {0, 0, 12, 6, 0, 0, 0, 0, 0, 0, 1};
    for (int i = 0; i < want.length; i++) {
      due("new count " + i, x.count(i), want[i]);
    }
    for (int k = 1; k <= 6; k++) {
      due("new told " + k, x.told(k), 0);
    }
    due("new has -1", x.has(-1), 0);
    due("new law 0", x.law(0, 7, 7, 7), 1);
    due("new law 1", x.law(1, 7, 6, 5), 42);
    due("new untell 0", x.untell(0), 0);
    due("new untell 1", x.untell(1), 0);
    due("new best", x.best(-1), 0);
    due("new paneIs", x.paneIs(0, 0), Due.BEYOND);
    due("new has 0", x.has(0), Due.BEYOND);
    due("new restore", x.restore(), Due.NONE);
    due("new body", x.body(0), Due.NONE);
    for (int s = 0; s < 4; s++) {
      due("new put " + s, x.put(s, 0, 0), Due.NONE);
    }
    due("new check", x.check(), 0);
    due("new image", x.image(), 1);
    FrostWills other = Due.withHeirs(2);
    due("apart", x.count(1), 0);
    due("apart", other.count(1), 2);
  }

  private static void heir() {
    FrostWills x = Due.withHeirs(6);
    due("heir 7th", x.heir(), Due.FULL);
    due("heirs", x.count(1), 6);
    due("has 5", x.has(5), 0);
    due("has 6", x.has(6), Due.BEYOND);
    due("told FULL", x.told(4), 1);
  }

  private static void pane() {
    FrostWills x = new FrostWills();
    due("pane without heirs", x.pane(0, 0, 0, 0, 0), Due.BEYOND);
    x = Due.withHeirs(2);
    int[][] bad = {
      {-1, 0, 0, 0, 0}, {70, 0, 0, 0, 0}, {Integer.MAX_VALUE, 0, 0, 0, 0},
      {0, -1, 0, 0, 0}, {0, 40, 0, 0, 0}, {0, Integer.MIN_VALUE, 0, 0, 0},
      {0, 0, -1, 0, 0}, {0, 0, 10, 0, 0}, {0, 0, 0, -1, 0}, {0, 0, 0, 2, 0},
      {0, 0, 0, 0, -1}, {0, 0, 0, 0, 100}
    };
    for (int[] b : bad) {
      due("pane beyond", x.pane(b[0], b[1], b[2], b[3], b[4]), Due.BEYOND);
    }
    due("no pane yet", x.count(0), 0);
    due("told", x.told(1), bad.length);
    due("pane 0", x.pane(69, 39, 9, 1, 99), 0);
    int[] want = {6, 9, 3, 9, 9, 1, 99};
    for (int i = 0; i < want.length; i++) {
      due("paneIs 0 " + i, x.paneIs(0, i), want[i]);
    }
    for (int i = 1; i < 8; i++) {
      due("pane " + i, x.pane(i, i, 0, 0, i), i);
    }
    due("pane 9th", x.pane(0, 0, 0, 0, 0), Due.FULL);
    due("beyond ahead of full", x.pane(70, 0, 0, 0, 0), Due.BEYOND);
    due("panes", x.count(0), 8);
    due("told FULL", x.told(4), 1);
    due("paneIs 7 m", x.paneIs(7, 1), 7);
  }

  private static void strokes(String what, int km, int clean, int cold, int lamp, int want) {
    FrostWills x = Due.withHeirs(1);
    due(what, x.pane(km, clean, 0, 0, 1), 0);
    x.set(0, cold);
    x.set(2, lamp);
    due(what, x.paneIs(0, 7), want);
  }

  private static void paneIs() {
    strokes("PANE", 9, 8, 39, 0, 11);
    strokes("PANE least", 9, 2, 3, 0, 0);
    strokes("PANE most", 0, 9, 40, 0, 13);
    strokes("DOUBLE", 19, 8, 39, 0, 5);
    strokes("KITCHEN", 24, 8, 39, 0, 7);
    strokes("KITCHEN held", 29, 0, 12, 0, 0);
    strokes("KITCHEN by lamp", 24, 8, 39, 1, 7);
    strokes("OILED too warm", 30, 9, 11, 0, 0);
    strokes("OILED at 12", 30, 9, 12, 0, 2);
    strokes("OILED", 30, 8, 39, 0, 3);
    strokes("ENTAIL", 47, 8, 39, 0, 5);
    strokes("ENTAIL by m", 47, 0, 0, 0, 3);
    strokes("ENTAIL m 8", 48, 0, 0, 0, 0);
    strokes("LAMPED dark", 54, 8, 39, 0, 7);
    strokes("LAMPED lit", 54, 8, 39, 1, 0);
    strokes("LAMPED held", 59, 0, 12, 0, 0);
    strokes("CRACKED", 60, 8, 39, 0, 11);
    strokes("CRACKED 38", 60, 8, 38, 0, 13);
    FrostWills x = Due.withHeirs(1);
    due("paneIs no pane", x.paneIs(0, 0), Due.BEYOND);
    x.pane(12, 34, 5, 0, 67);
    due("paneIs -1", x.paneIs(-1, 0), Due.BEYOND);
    due("paneIs 1", x.paneIs(1, 0), Due.BEYOND);
    due("paneIs what -1", x.paneIs(0, -1), Due.BEYOND);
    due("paneIs what 8", x.paneIs(0, 8), Due.BEYOND);
    due("told", x.told(1), 5);
    int[] want = {1, 2, 3, 4, 5, 0, 67, 2};
    for (int i = 0; i < want.length; i++) {
      due("paneIs " + i, x.paneIs(0, i), want[i]);
    }
  }

  private static void become() {
    FrostWills x = Due.withHeirs(1);
    x.pane(12, 34, 5, 0, 67);
    due("become", x.become(0, 69), 1);
    due("kind", x.paneIs(0, 0), 6);
    due("m", x.paneIs(0, 1), 9);
    due("facing stays", x.paneIs(0, 2), 3);
    due("clean stays", x.paneIs(0, 3), 4);
    due("floor stays", x.paneIs(0, 4), 5);
    due("worth stays", x.paneIs(0, 6), 67);
    due("become 70", x.become(0, 70), Due.BEYOND);
    due("become -1", x.become(0, -1), Due.BEYOND);
    due("become no pane", x.become(1, 0), Due.BEYOND);
    due("become pane -1", x.become(-1, 0), Due.BEYOND);
    due("told", x.told(1), 4);
    due("kind stays", x.paneIs(0, 0), 6);
    due("become 0", x.become(0, 0), 6);
    due("become 0 again", x.become(0, 0), 0);
  }

  private static void as() {
    boolean[][] under = {
      {true, false, false, false, false, false, false},
      {true, true, false, false, false, false, false},
      {true, false, true, false, false, false, false},
      {true, false, false, true, false, false, false},
      {true, true, false, false, true, false, false},
      {true, false, true, false, false, true, false},
      {true, false, false, false, false, false, true}
    };
    FrostWills x = Due.withHeirs(1);
    x.pane(0, 0, 0, 0, 0);
    int unlike = 0;
    for (int kind = 0; kind < 7; kind++) {
      x.become(0, 10 * kind + 3);
      for (int as = 0; as < 7; as++) {
        due(kind + " as " + as, x.as(0, as), under[kind][as] ? 3 : Due.KIND);
        unlike += under[kind][as] ? 0 : 1;
      }
    }
    due("told KIND", x.told(5), unlike);
    due("as -1", x.as(0, -1), Due.BEYOND);
    due("as 7", x.as(0, 7), Due.BEYOND);
    due("as no pane", x.as(1, 0), Due.BEYOND);
    due("as pane -1", x.as(-1, 0), Due.BEYOND);
    due("told", x.told(1), 4);
  }

  private static void wipe() {
    FrostWills x = Due.withHeirs(1);
    x.pane(0, 7, 0, 0, 0);
    due("wipe 9", x.wipe(0, 9), 7);
    due("clean", x.paneIs(0, 3), 9);
    due("strokes", x.paneIs(0, 7), 6);
    due("wipe 10", x.wipe(0, 10), Due.BEYOND);
    due("wipe -1", x.wipe(0, -1), Due.BEYOND);
    due("wipe no pane", x.wipe(1, 0), Due.BEYOND);
    due("wipe pane -1", x.wipe(-1, 0), Due.BEYOND);
    due("told", x.told(1), 4);
    due("wipe 0", x.wipe(0, 0), 9);
    due("clean 0", x.paneIs(0, 3), 0);
  }

  private static void names() {
    FrostWills x = Due.withHeirs(2);
    x.pane(0, 0, 0, 1, 0);
    due("names 0", x.names(0, 0), 1);
    due("for", x.paneIs(0, 5), 0);
    due("names 2", x.names(0, 2), Due.BEYOND);
    due("names the church", x.names(0, -1), Due.BEYOND);
    due("names no pane", x.names(1, 0), Due.BEYOND);
    due("names pane -1", x.names(-1, 0), Due.BEYOND);
    due("told", x.told(1), 4);
    due("names 1", x.names(0, 1), 0);
    due("heir 2", x.heir(), 2);
    due("names 2 now", x.names(0, 2), 1);
  }

  private static void has() {
    FrostWills x = Due.withHeirs(2);
    x.pane(0, 0, 0, 1, 5);
    Due.row(x, 0, 8, 0);
    due("reading", x.reading(0), 15);
    due("has 0", x.has(0), 0);
    due("has 1", x.has(1), 15);
    due("has -1", x.has(-1), 0);
    due("has 2", x.has(2), Due.BEYOND);
    due("has -2", x.has(-2), Due.BEYOND);
    due("told", x.told(1), 2);
  }

  private static void set() {
    FrostWills x = new FrostWills();
    due("cold 40", x.set(0, 40), 12);
    due("cold 41", x.set(0, 41), Due.BEYOND);
    due("cold -1", x.set(0, -1), Due.BEYOND);
    due("cold 0", x.set(0, 0), 40);
    due("cold", x.count(2), 0);
    due("hour 23", x.set(1, 23), 6);
    due("hour 24", x.set(1, 24), Due.BEYOND);
    due("hour -1", x.set(1, -1), Due.BEYOND);
    due("hour 0", x.set(1, 0), 23);
    due("hour", x.count(3), 0);
    due("lamp 1", x.set(2, 1), 0);
    due("lamp 2", x.set(2, 2), Due.BEYOND);
    due("lamp -1", x.set(2, -1), Due.BEYOND);
    due("lamp", x.count(4), 1);
    due("lamp 0", x.set(2, 0), 1);
    due("set 3", x.set(3, 0), Due.BEYOND);
    due("set -1", x.set(-1, 0), Due.BEYOND);
    due("told", x.told(1), 8);
  }
}
