/** Terms, 1, and promises 15 to 18: the edges of ROUNDS, of what is READ and held, of DRAWS. */
public final class NightEdgesTest {
  public static void main(String[] args) {
    fewAndMany();
    hours();
    tookByWhatIsRead();
    tookHeld();
    sheetsOfRounds();
    theChurch();
    heldOfAnHeir();
    heldOfTheChurch();
    heldWithinANight();
    heldByDraws();
    draws();
    drawnLamp();
    manyDraws();
    seeds();
    byNumbers();
    whatWasThoughtAhead();
    Due.end("NightEdgesTest");
  }

  private static void due(String call, long got, long want) {
    Due.due(call, got, want);
  }

  /** COLD 40; so many PANES of 13 STROKES that melt by 1, of worth 1, for HEIR 0 of 2. */
  private static FrostWills windows(int panes, int facing, int hour) {
    FrostWills x = Due.withHeirs(2);
    x.set(0, 40);
    x.set(1, hour);
    for (int i = 0; i < panes; i++) {
      due("pane", x.pane(0, 10 * facing + 9, i, 0, 1), i);
    }
    x.sheet(0, 8, panes);
    for (int i = 0; i < panes; i++) {
      x.put(0, i, i);
    }
    return x;
  }

  /** No PANES, one, and all 8; by hours beyond 23, 0 at least. */
  private static void fewAndMany() {
    int[] comesTo = {0, 5, 9, 12, 14, 15, 15, 15, 15};
    for (int panes = 0; panes <= 8; panes++) {
      FrostWills x = windows(panes, 3, 23);
      due("round of " + panes + " from 23 on", x.round(0), comesTo[panes]);
      due("reading of " + panes, x.reading(0), comesTo[panes]);
      due("has", x.has(0), comesTo[panes]);
      due("the church has", x.has(-1), 13 * panes - comesTo[panes]);
      due("nights", x.count(5), 1);
    }
  }

  /** The first at HOUR, 0 to 23; the next one, without a TEXT, 1 on. */
  private static void hours() {
    for (int hour = 0; hour <= 23; hour++) {
      FrostWills x = windows(2, 1, hour);
      int first = hour <= 7 ? 13 : Math.max(0, 13 - (hour - 7));
      int second = hour <= 6 ? 13 : Math.max(0, 13 - (hour - 6));
      due("round at " + hour, x.round(0), first + second);
    }
  }

  /** s is what is READ (7 of 13), so that pane 1 is read 2 on; of nothing READ it is 0, held at 1. */
  private static void tookByWhatIsRead() {
    FrostWills x = windows(1, 1, 13);
    x.pane(0, 29, 0, 0, 1);
    Due.row(x, 0, 8, 0, 1);
    Due.tell(x, 0, "s-5");
    due("7 at 13, 8 at 15", x.round(0), 7 + 8);
    x.set(1, 21);
    due("0 at 21, 1 at 22", x.round(0), 0 + 1);
    Due.tell(x, 0, "(s=0)*2");
    due("0 at 21, 0 at 23", x.round(0), 0);
    x.set(1, 19);
    due("1 at 19, 3 at 20", x.round(0), 1 + 3);
  }

  /** Hours 1 to 9; FLOOR 0 to 9, KIND 0 to 6. Pane 1 faces east and is read at 7 and so many. */
  private static void tookHeld() {
    String[] texts = {"0-1", "0", "1", "2", "8", "9", "10", "9999", "0-9999"};
    int[] hours = {1, 1, 1, 2, 8, 9, 9, 9, 1};
    for (int i = 0; i < texts.length; i++) {
      FrostWills x = windows(2, 1, 7);
      Due.tell(x, 0, texts[i]);
      due("took " + texts[i], x.round(0), 13 + 13 - hours[i]);
    }
    for (int floor = 0; floor <= 9; floor++) {
      FrostWills x = Due.withHeirs(1);
      x.set(0, 40);
      x.set(1, 7);
      x.pane(0, 9, floor, 0, 0);
      x.pane(0, 19, 0, 0, 1);
      Due.row(x, 0, 8, 0, 1);
      Due.tell(x, 0, "f");
      due("took by floor " + floor, x.round(0), 13 - Math.max(1, floor));
      for (int kind = 0; kind <= 6; kind++) {
        x.become(0, 10 * kind);
        Due.tell(x, 0, "k");
        due("took by kind " + kind, x.round(0), 13 - Math.max(1, kind));
      }
    }
  }

  /** A SHEET of any bits is a ROUND by its numbers, the lowest bits of what was put. */
  private static void sheetsOfRounds() {
    FrostWills x = windows(8, 1, 9);
    int want = 11 + 10 + 9 + 8 + 7 + 6 + 5 + 4;
    Due.row(x, 1, 8, 256, 1, 2, 3, 4, 5, 6, -256 + 7);
    Due.row(x, 2, 16, 7, 6, 5, 4, 3, 2, 1, 65536);
    Due.row(x, 3, 32, 7, 0, 6, 1, 5, 2, 4, 3);
    for (int s = 0; s < 4; s++) {
      due("round of sheet " + s, x.round(s), want);
    }
    x.put(3, 7, 256 + 3);
    due("32 bits", x.round(3), Due.NONE);
    x.put(2, 7, 256);
    due("16 bits", x.round(2), Due.NONE);
    x.sheet(1, 8, 7);
    due("7 of 8", x.round(1), Due.NONE);
    x.sheet(1, 8, 9);
    due("9 of 8", x.round(1), Due.NONE);
  }

  /** What the VALUE of all STROKES would be above what is READ: 0, if that is less or the same. */
  private static void theChurch() {
    String[] texts = {"r", "13-r", "5", "(r=13)*7", "(r=12)*7", "(r=13)*9999", "(r=12)+(r=13)*2"};
    int[] has = {12, 1, 5, 0, 7, 0, 1};
    int[] church = {1, 0, 0, 7, 0, 9999, 1};
    for (int i = 0; i < texts.length; i++) {
      FrostWills x = windows(1, 1, 8);
      Due.tell(x, 1, texts[i]);
      due("reading by " + texts[i], x.reading(0), has[i]);
      due("has by " + texts[i], x.has(0), has[i]);
      due("the church by " + texts[i], x.has(-1), church[i]);
    }
  }

  private static void readBy(FrostWills x, String value, int times, int sum) {
    Due.tell(x, 1, value);
    for (int i = 0; i < times; i++) {
      due("reading by " + value, x.reading(0), sum);
    }
  }

  /** 99999 is had, what is more is not; the other HEIR and THE CHURCH go on. */
  private static void heldOfAnHeir() {
    FrostWills x = windows(1, 0, 0);
    readBy(x, "9999", 10, 9999);
    due("has", x.has(0), 99990);
    readBy(x, "8", 1, 8);
    due("has", x.has(0), 99998);
    readBy(x, "1", 1, 1);
    due("has the most", x.has(0), 99999);
    readBy(x, "1", 1, 1);
    due("has no more", x.has(0), 99999);
    readBy(x, "9999", 1, 9999);
    due("has no more", x.has(0), 99999);
    due("the other", x.has(1), 0);
    due("the church", x.has(-1), 0);
    due("nights", x.count(5), 14);
    x = windows(1, 0, 0);
    readBy(x, "9999", 10, 9999);
    readBy(x, "9", 1, 9);
    due("just so", x.has(0), 99999);
    x = windows(1, 0, 0);
    readBy(x, "9999", 10, 9999);
    readBy(x, "10", 1, 10);
    due("one above", x.has(0), 99999);
  }

  /** Nothing is left at 23, but of 13 STROKES the VALUE would be all. */
  private static void heldOfTheChurch() {
    FrostWills x = windows(1, 1, 23);
    readBy(x, "(r=13)*9999", 10, 0);
    due("the church", x.has(-1), 99990);
    readBy(x, "(r=13)*8", 1, 0);
    due("the church", x.has(-1), 99998);
    readBy(x, "r/13", 1, 0);
    due("the church has the most", x.has(-1), 99999);
    readBy(x, "r/13", 1, 0);
    due("the church has no more", x.has(-1), 99999);
    due("and by 6, too", x.count(6), 99999);
    readBy(x, "(r=13)*9999", 1, 0);
    due("the church has no more", x.has(-1), 99999);
    due("has", x.has(0), 0);
    x = windows(1, 1, 23);
    readBy(x, "(r=13)*9999", 10, 0);
    readBy(x, "(r=13)*10", 1, 0);
    due("one above", x.has(-1), 99999);
  }

  /** Each PANE by itself is held, but the ROUND comes to all. */
  private static void heldWithinANight() {
    FrostWills x = windows(8, 0, 0);
    readBy(x, "9999", 1, 8 * 9999);
    due("has", x.has(0), 79992);
    readBy(x, "9999", 1, 8 * 9999);
    due("has the most", x.has(0), 99999);
    x = windows(8, 1, 23);
    readBy(x, "(r=13)*9999", 2, 0);
    due("the church has the most", x.has(-1), 99999);
    due("has", x.has(0), 0);
  }

  private static void heldByDraws() {
    FrostWills x = windows(8, 0, 0);
    Due.tell(x, 1, "9999");
    due("the church", x.loose(2), 0);
    due("has the most", x.has(0), 99999);
    due("held at what it is", x.loose(30), 0);
    due("has the most", x.has(0), 99999);
    // Nothing is left of any at 23, and each night has STROKES, as all are CLEAN.
    x = windows(8, 1, 23);
    Due.tell(x, 1, "(r>0)*9999");
    due("the church", x.loose(1), 79992);
    due("the church has the most", x.loose(1), 99999);
    due("the church has the most", x.loose(30), 99999);
  }

  private static void draws() {
    int[][] rows = {
      {1, 37, 0, -1770082073}, {0, 7, 0, -740551042}, {-1, 33, 0, 288979989},
      {7, 40, 1, 642666333}, {77, 37, 0, 1589938195}, {-5, 10, 0, 112136817},
      {Integer.MAX_VALUE, 25, 0, -1858503659}, {Integer.MIN_VALUE, 15, 0, 1406932606},
      {68, 0, 0, -2029184414}, {216, 0, 1, 219045654}, {194, 0, 0, 1393891856},
      {46, 0, 1, -854338212}, {79, 40, 0, -469123867}, {90, 40, 1, 1090936680},
      {155, 40, 0, -1404070895}
    };
    for (int[] r : rows) {
      FrostWills x = windows(0, 0, 23);
      x.set(2, 1 - r[2]);
      x.seed(r[0]);
      due("loose from " + r[0], x.loose(1), 0);
      due("cold from " + r[0], x.count(2), r[1]);
      due("lamp from " + r[0], x.count(4), r[2]);
      due("z from " + r[0], x.count(10), r[3]);
      due("the hour stays", x.count(3), 23);
      due("nights", x.count(5), 1);
      due("what z was", x.seed(1), r[3]);
    }
  }

  /** What was drawn is of the same night already. */
  private static void drawnLamp() {
    FrostWills x = windows(0, 0, 6);
    x.pane(50, 9, 0, 0, 1);
    x.set(2, 1);
    x.seed(79);
    x.loose(1);
    due("cold 40, dark", x.has(0), 13);
    x.seed(90);
    x.loose(1);
    due("cold 40, lit", x.has(0), 13);
    x.seed(68);
    x.loose(1);
    due("cold 0, dark", x.has(0), 16);
    x.seed(216);
    x.loose(1);
    due("cold 0, lit", x.has(0), 16);
  }

  /** n nights are n times one night. */
  private static void manyDraws() {
    for (int n : new int[] {1, 2, 29, 30}) {
      FrostWills one = windows(3, 1, 12);
      FrostWills all = windows(3, 1, 12);
      int church = 0;
      for (int i = 0; i < n; i++) {
        church = one.loose(1);
      }
      due(n + " nights", all.loose(n), church);
      due("the church", all.has(-1), church);
      due("has", all.has(0), one.has(0));
      for (int what = 0; what <= 10; what++) {
        due("count " + what, all.count(what), one.count(what));
      }
      due("nights", all.count(5), n);
    }
  }

  private static void seeds() {
    FrostWills x = new FrostWills();
    int was = 1;
    for (int z : new int[] {0, -1, Integer.MAX_VALUE, Integer.MIN_VALUE, Due.BEYOND, 1}) {
      due("seed", x.seed(z), was);
      due("z", x.count(10), z);
      was = z;
    }
    due("no error", x.told(1), 0);
  }

  /** BY DRAWS it is by numbers, whatever ROUND was READ or thought of ahead. */
  private static void byNumbers() {
    FrostWills plain = byTime();
    FrostWills other = byTime();
    Due.row(other, 1, 8, 2, 1, 0);
    other.round(1);
    due("best", other.best(0), 1);
    other.share(0);
    due("the same", other.loose(1), plain.loose(1));
    due("has", other.has(0), plain.has(0));
    due("by cold 37", plain.has(0), 12 + 12 * 10 + 11 * 50);
  }

  /** Worths 1, 10, 50; all facing east, at 6: the best ROUND reads pane 0 the last. */
  private static FrostWills byTime() {
    FrostWills x = Due.withHeirs(1);
    x.set(1, 6);
    x.pane(0, 19, 0, 0, 1);
    x.pane(0, 19, 0, 0, 10);
    x.pane(0, 19, 0, 0, 50);
    return x;
  }

  /** A ROUND goes by what PANES and TEXTS are now, not as they were when it was thought of. */
  private static void whatWasThoughtAhead() {
    FrostWills x = byTime();
    Due.row(x, 0, 8, 0, 1, 2);
    due("round", x.round(0), 6 + 60 + 250);
    Due.tell(x, 1, "r");
    due("by a text", x.round(0), 6 + 6 + 5);
    Due.tell(x, 0, "3");
    due("by two", x.round(0), 6 + 4 + 1);
    x.untell(1);
    due("by worth again", x.round(0), 6 + 40 + 50);
    x.untell(0);
    Due.row(x, 1, 8, 3, 2, 1);
    x.worths(1);
    due("by other worths", x.round(0), 18 + 12 + 5);
    x.wipe(0, 0);
    due("of fewer strokes", x.round(0), 9 + 12 + 5);
    x.become(1, 15);
    due("of another kind", x.round(0), 9 + 6 + 5);
    Due.tell(x, 1, "r+h*100");
    x.heir();
    x.names(2, 1);
    due("for another one", x.round(0), 3 + 3 + 105);
    x.set(0, 16);
    due("by another cold", x.round(0), 4 + 3 + 106);
  }
}
