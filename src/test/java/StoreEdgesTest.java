/** Terms, 4, and promises 26 to 38: the edges of voices, SHEETS, images, of what waits and is told. */
public final class StoreEdgesTest {
  private static final int LEAST = Integer.MIN_VALUE;
  private static final int MOST = Integer.MAX_VALUE;

  public static void main(String[] args) {
    voicesThatWrap();
    partsEachWay();
    theLatestTrace();
    traceOfWhatParted();
    allNumbersOfASheet();
    sheetsApart();
    lowestBits();
    sheetAnew();
    movesWithinOne();
    movesOfAll();
    movesOfNone();
    worthsEdges();
    worthsOfFew();
    judgeEdges();
    imageOfAllParts();
    imageOfNothing();
    imageInPlace();
    restoreTwice();
    restoreOfPanes();
    restoreOfTheTape();
    waitingFull();
    checkOfAllHeirs();
    checkOfFew();
    countEach();
    toldEach();
    theLastCall();
    apart();
    Due.end("StoreEdgesTest");
  }

  private static void due(String call, long got, long want) {
    Due.due(call, got, want);
  }

  /** Pane 2, with m. */
  private static FrostWills speaker(int km) {
    FrostWills x = Due.withHeirs(1);
    x.pane(0, 0, 0, 0, 0);
    x.pane(0, 0, 0, 0, 0);
    x.pane(km, 0, 0, 0, 0);
    return x;
  }

  private static void says(int km, int voice, int x, int want) {
    due("voice " + voice + " of " + km + " by " + x, speaker(km).voice(2, voice, x), want);
  }

  /** Ints that wrap, by each BODY. */
  private static void voicesThatWrap() {
    says(0, 0, MOST, LEAST + 1);
    says(0, 0, LEAST, LEAST + 2);
    says(0, 1, MOST - 1, LEAST + LEAST);
    says(0, 1, LEAST - 2, 0);
    says(0, 1, 1 << 30, LEAST + 4);
    says(4, 2, LEAST / 2 - 2, LEAST - 4);
    says(10, 0, LEAST, LEAST - 2);
    says(20, 1, LEAST / 2 - 2, LEAST);
    says(20, 1, MOST, -2);
    says(30, 2, MOST, (MOST / 2 + 2) * 2);
    says(30, 2, LEAST, (LEAST / 2 + 2) * 2);
    says(30, 2, -3, 2);
    says(30, 2, 3, 6);
    says(40, 0, MOST, (MOST - 2) * 3);
    says(40, 2, -1, ((-1 + 2 - 4) * 3 * 2) ^ 2);
    says(50, 1, MOST, 0 - (LEAST + 2) * 2);
    says(50, 1, -1, -4);
    says(69, 0, LEAST, 9);
    says(69, 1, LEAST, 27);
    says(69, 2, MOST, 18);
  }

  /** x by m - k, k being 2: by 1, by -1, by -2, by 7, cut toward 0; PARTED by 0 whatever x is. */
  private static void partsEachWay() {
    says(3, 3, 7, 7);
    says(1, 3, 7, -7);
    says(1, 3, LEAST, LEAST);
    says(0, 3, 7, -3);
    says(0, 3, -7, 3);
    says(9, 3, 6, 0);
    says(9, 3, -6, 0);
    says(9, 3, 7, 1);
    says(9, 3, -13, -1);
    says(0, 3, LEAST, 1 << 30);
    for (int x : new int[] {0, 1, -1, LEAST, MOST}) {
      says(2, 3, x, Due.PARTED);
      says(12, 3, x, Due.PARTED);
      says(22, 3, x, Due.PARTED);
      says(32, 3, x, Due.PARTED);
      says(42, 3, x, Due.PARTED);
      says(52, 3, x, Due.PARTED);
      says(62, 3, x, Due.PARTED);
    }
  }

  private static void traceIs(FrostWills x, int... bodies) {
    due("bodies", x.count(9), bodies.length);
    for (int i = 0; i < bodies.length; i++) {
      due("body " + i, x.body(i), bodies[i]);
    }
    due("no body " + bodies.length, x.body(bodies.length), Due.NONE);
    due("no body -1", x.body(-1), Due.NONE);
  }

  /** A shorter one in place of a longer one; one that was BEYOND in place of none. */
  private static void theLatestTrace() {
    FrostWills x = speaker(45);
    traceIs(x);
    x.voice(2, 4, 0);
    traceIs(x);
    x.voice(2, 3, 1);
    traceIs(x, 21, 13, 11, 50, 20, 10);
    x.voice(2, 2, 1);
    traceIs(x, 51, 12, 11, 50, 20, 10);
    x.voice(2, 0, 1);
    traceIs(x, 50, 20, 10);
    x.voice(0, 0, 1);
    traceIs(x, 10);
    x.voice(2, -1, 1);
    x.voice(3, 0, 1);
    x.voice(-1, 0, 1);
    traceIs(x, 10);
    x.become(2, 60);
    x.voice(2, 0, 1);
    traceIs(x, 70);
  }

  /** What was PARTED began, and what would have come behind it did not. */
  private static void traceOfWhatParted() {
    FrostWills x = speaker(42);
    x.voice(2, 2, 1);
    due("parted", x.voice(2, 3, 1), Due.PARTED);
    traceIs(x, 21, 13);
    x.become(2, 2);
    due("parted", x.voice(2, 3, 1), Due.PARTED);
    traceIs(x, 13);
    x.become(2, 52);
    due("parted", x.voice(2, 3, 1), Due.PARTED);
    traceIs(x, 13);
    due("told", x.told(6), 3);
    due("no more parted", x.voice(2, 0, 1), 3);
    traceIs(x, 10);
  }

  private static FrostWills withPanes(int n) {
    FrostWills x = Due.withHeirs(1);
    for (int i = 0; i < n; i++) {
      due("pane", x.pane(0, 0, 0, 0, 50), i);
    }
    return x;
  }

  /** Numbers of sheet 3 from i on, 8 at most, come to sheet 2 and become worths of 8 panes. */
  private static void holds(FrostWills x, int bits, int i, int... want) {
    due("sheet", x.sheet(2, bits, want.length), 1);
    due("move", x.move(3, i, 2, 0, want.length), want.length);
    due("worths", x.worths(2), want.length);
    for (int p = 0; p < want.length; p++) {
      due("number " + (i + p), x.paneIs(p, 6), want[p]);
    }
  }

  /** All 24 are told apart, of each number of bits. */
  private static void allNumbersOfASheet() {
    for (int bits = 8; bits <= 32; bits *= 2) {
      FrostWills x = withPanes(8);
      due("sheet", x.sheet(3, bits, 24), 1);
      for (int i = 0; i < 24; i++) {
        due("put", x.put(3, i, 70 - i), 1);
      }
      for (int i = 0; i < 24; i += 8) {
        holds(x, bits, i, 70 - i, 69 - i, 68 - i, 67 - i, 66 - i, 65 - i, 64 - i, 63 - i);
      }
      due("no 25th", x.put(3, 24, 1), Due.BEYOND);
    }
  }

  private static void sheetsApart() {
    FrostWills x = withPanes(2);
    for (int s = 0; s < 4; s++) {
      Due.row(x, s, 8, 10 + s, 20 + s);
    }
    due("missing", x.sheet(1, 0, 2), 1);
    for (int s = 0; s < 4; s++) {
      due("worths of " + s, x.worths(s), s == 1 ? Due.NONE : 2);
      due("worth 0", x.paneIs(0, 6), s == 1 ? 10 : 10 + s);
      due("worth 1", x.paneIs(1, 6), s == 1 ? 20 : 20 + s);
    }
  }

  private static void lowestBits() {
    int[][] rows = {
      {8, 256, 0}, {8, 256 + 99, 99}, {8, -256, 0}, {8, LEAST, 0}, {8, 65536 + 7, 7},
      {8, 100, -1}, {8, 127, -1}, {8, 128, -1}, {8, 255, -1}, {8, -1, -1}, {8, MOST, -1},
      {16, 65536, 0}, {16, 65536 + 99, 99}, {16, -65536, 0}, {16, LEAST, 0}, {16, 256, -1},
      {16, 32767, -1}, {16, 32768, -1}, {16, 65535, -1}, {16, -1, -1}, {16, MOST, -1},
      {32, 65536, -1}, {32, 256, -1}, {32, LEAST, -1}, {32, LEAST + 7, -1}, {32, -1, -1},
      {32, MOST, -1}, {32, 99, 99}, {32, 0, 0}
    };
    for (int[] r : rows) {
      FrostWills x = withPanes(1);
      x.sheet(0, r[0], 1);
      due("put " + r[1], x.put(0, 0, r[1]), 1);
      due("worths of " + r[1] + " in " + r[0], x.worths(0), r[2] < 0 ? 0 : 1);
      due("worth by " + r[1] + " in " + r[0], x.paneIs(0, 6), r[2] < 0 ? 50 : r[2]);
    }
  }

  /** Promise 28: all 0, of other bits, of fewer and of more. */
  private static void sheetAnew() {
    FrostWills x = withPanes(3);
    Due.row(x, 3, 8, 1, 2, 3);
    due("the same anew", x.sheet(3, 8, 3), 1);
    holds(x, 8, 0, 0, 0, 0);
    Due.row(x, 3, 8, 1, 2, 3);
    due("fewer", x.sheet(3, 8, 2), 1);
    due("the third is none", x.put(3, 2, 1), Due.BEYOND);
    due("more", x.sheet(3, 8, 3), 1);
    holds(x, 8, 0, 0, 0, 0);
    Due.row(x, 3, 8, 1, 2, 3);
    due("of other bits", x.sheet(3, 32, 3), 1);
    holds(x, 32, 0, 0, 0, 0);
    Due.row(x, 3, 32, 1, 2, 3);
    due("missing", x.sheet(3, 0, 3), 1);
    due("missing", x.worths(3), Due.NONE);
    due("missing again", x.sheet(3, 0, 3), 1);
    due("back", x.sheet(3, 32, 3), 1);
    holds(x, 32, 0, 0, 0, 0);
    due("of none", x.sheet(3, 16, 0), 1);
    due("not missing", x.worths(3), 0);
    due("not missing", x.judge(3), 0);
  }

  /** As they all were, one place on, one place back, at either end. */
  private static void movesWithinOne() {
    FrostWills x = withPanes(8);
    for (int bits = 8; bits <= 32; bits *= 2) {
      Due.row(x, 3, bits, 1, 2, 3, 4, 5, 6, 7, 8);
      due("one on", x.move(3, 0, 3, 1, 7), 7);
      holds(x, bits, 0, 1, 1, 2, 3, 4, 5, 6, 7);
      Due.row(x, 3, bits, 1, 2, 3, 4, 5, 6, 7, 8);
      due("one back", x.move(3, 1, 3, 0, 7), 7);
      holds(x, bits, 0, 2, 3, 4, 5, 6, 7, 8, 8);
      Due.row(x, 3, bits, 1, 2, 3, 4, 5, 6, 7, 8);
      due("three on", x.move(3, 1, 3, 4, 4), 4);
      holds(x, bits, 0, 1, 2, 3, 4, 2, 3, 4, 5);
      due("the last to the first", x.move(3, 7, 3, 0, 1), 1);
      holds(x, bits, 0, 5, 2, 3, 4, 2, 3, 4, 5);
      due("onto itself", x.move(3, 0, 3, 0, 8), 8);
      holds(x, bits, 0, 5, 2, 3, 4, 2, 3, 4, 5);
    }
  }

  /** All 24 of one to another; what is moved stays where it was; what is wide stays so. */
  private static void movesOfAll() {
    FrostWills x = withPanes(8);
    x.sheet(0, 16, 24);
    x.sheet(3, 16, 24);
    for (int i = 0; i < 24; i++) {
      x.put(0, i, i + 1);
    }
    due("all", x.move(0, 0, 3, 0, 24), 24);
    holds(x, 16, 16, 17, 18, 19, 20, 21, 22, 23, 24);
    due("the last to the last", x.move(0, 23, 3, 23, 1), 1);
    due("the last to the first", x.move(0, 23, 3, 0, 1), 1);
    due("the first to the last", x.move(0, 0, 3, 23, 1), 1);
    holds(x, 16, 0, 24, 2, 3);
    holds(x, 16, 21, 22, 23, 1);
    due("24 again", x.move(0, 0, 3, 0, 24), 24);
    holds(x, 16, 0, 1, 2);
    due("25", x.move(0, 0, 3, 0, 25), Due.BEYOND);
    due("24 from 1 on", x.move(0, 1, 3, 0, 24), Due.BEYOND);
    due("24 to 1 on", x.move(0, 0, 3, 1, 24), Due.BEYOND);
    Due.row(x, 0, 32, LEAST + 5, 65536 + 5);
    Due.row(x, 1, 32, 1, 1);
    due("wide ones", x.move(0, 0, 1, 0, 2), 2);
    due("below 0 still", x.worths(1), 0);
    due("above 99 still", x.move(0, 1, 1, 0, 1) + x.worths(1), 1);
  }

  private static void movesOfNone() {
    FrostWills x = withPanes(1);
    Due.row(x, 0, 8, 1);
    x.sheet(1, 8, 0);
    due("none of one", x.move(0, 0, 1, 0, 0), 0);
    due("none behind it", x.move(0, 1, 1, 0, 0), 0);
    due("none of none", x.move(1, 0, 1, 0, 0), 0);
    due("one of none", x.move(1, 0, 0, 0, 1), Due.BEYOND);
    due("one to none", x.move(0, 0, 1, 0, 1), Due.BEYOND);
    due("none, behind none", x.move(1, 1, 0, 0, 0), Due.BEYOND);
    due("the number stays", x.worths(0), 1);
    due("the number stays", x.paneIs(0, 6), 1);
  }

  /** 0 and 99 are WORTHS, -1 and 100 are none; what is behind is not looked at. */
  private static void worthsEdges() {
    int[][] rows = {
      {3, 0, 99, 0}, {3, 99, 0, 99}, {0, 100, 1, 1}, {0, -1, 1, 1}, {1, 1, 100, 1}, {1, 1, -1, 1},
      {2, 1, 2, 100}, {2, 1, 2, -1}, {2, 1, 2, LEAST}, {2, 1, 2, MOST}, {0, LEAST, 1, 1}
    };
    for (int[] r : rows) {
      FrostWills x = withPanes(3);
      Due.row(x, 0, 32, r[1], r[2], r[3]);
      due("worths", x.worths(0), r[0]);
      for (int i = 0; i < 3; i++) {
        due("worth " + i, x.paneIs(i, 6), i < r[0] ? r[1 + i] : 50);
      }
      due("no error", x.told(1) + x.told(2), 0);
    }
  }

  /** No PANES, no numbers, fewer, as many, more, and 24 for all 8. */
  private static void worthsOfFew() {
    for (int panes = 0; panes <= 8; panes++) {
      for (int n : new int[] {0, 1, 2, 7, 8, 9, 24}) {
        FrostWills x = withPanes(panes);
        x.sheet(0, 8, n);
        for (int i = 0; i < n; i++) {
          x.put(0, i, i + 1);
        }
        due("worths of " + n + ", panes " + panes, x.worths(0), Math.min(n, panes));
        for (int p = 0; p < panes; p++) {
          due("worth " + p, x.paneIs(p, 6), p < n ? p + 1 : 50);
        }
        due("no error", x.told(1) + x.told(2), 0);
      }
    }
  }

  /** From the first on, as far as they are right; by HOUR and COLD as they are. */
  private static void judgeEdges() {
    FrostWills x = Due.withHeirs(1);
    Due.row(x, 0, 8, 3, 0, 3);
    due("no panes", x.judge(0), 0);
    for (int i = 0; i < 8; i++) {
      x.pane(0, i < 4 ? 0 : 10, 0, 0, 1);
    }
    due("the first alone, though the third is right", x.judge(0), 1);
    x.sheet(1, 8, 0);
    due("no numbers", x.judge(1), 0);
    Due.row(x, 2, 8, 3, 3, 3, 3, 3, 3, 3, 3);
    due("all 8", x.judge(2), 8);
    Due.row(x, 3, 8, 3, 3, 3, 3, 3, 3, 3, 3, 0, 0, 0, 0, 0, 0, 0, 0, 0, 0, 0, 0, 0, 0, 0, 3);
    due("8 of 24", x.judge(3), 8);
    x.put(2, 7, 2);
    due("but the last", x.judge(2), 7);
    x.put(2, 0, 256 + 3);
    due("but the last", x.judge(2), 7);
    x.put(2, 0, 2);
    due("none", x.judge(2), 0);
    x.set(1, 23);
    due("the north at 23", x.judge(3), 4);
    x.set(1, 0);
    due("all at 0", x.judge(3), 8);
    x.set(0, 11);
    due("none by 11", x.judge(3), 0);
    x.set(0, 15);
    due("all by 15", x.judge(3), 8);
    Due.row(x, 0, 32, 3, -3, 3);
    due("below 0 is none", x.judge(0), 1);
  }

  /** Each part that an IMAGE has, on its own: changed behind it, it is as it was. */
  private static void imageOfAllParts() {
    Twins.Act[] changes = {
      FrostWills::heir, x -> x.pane(1, 1, 1, 1, 1), x -> x.become(1, 33), x -> x.wipe(1, 1),
      x -> x.names(1, 0), x -> x.set(0, 3), x -> x.set(1, 3), x -> x.set(2, 1),
      x -> x.feed('1', 1), x -> x.text(0), x -> x.text(1), x -> x.untell(0), x -> x.untell(1),
      x -> x.reading(0), x -> x.loose(3), x -> x.seed(3), x -> x.worths(0), x -> x.tell(3),
      FrostWills::check
    };
    for (int i = 0; i < changes.length; i++) {
      Twins.Act change = changes[i];
      Twins.onlyThought("image, change " + i + ", restore", StoreEdgesTest::houseInAnImage, x -> {
        change.on(x);
        return x.restore();
      }, 2);
    }
  }

  private static FrostWills houseInAnImage() {
    FrostWills x = Twins.house();
    x.image();
    return x;
  }

  /** An IMAGE of a new object: nothing is there any more, and z is 1. */
  private static void imageOfNothing() {
    FrostWills x = new FrostWills();
    due("image", x.image(), 1);
    for (int i = 0; i < 6; i++) {
      x.heir();
    }
    for (int i = 0; i < 8; i++) {
      x.pane(3, 3, 3, 3, 3);
    }
    x.loose(9);
    Due.tell(x, 0, "3");
    Due.tell(x, 1, "3");
    Due.write(x, "3");
    x.tell(3);
    due("restore", x.restore(), 0);
    int[] want = {0, 0, 12, 6, 0, 0, 0, 0, 0, 0, 1};
    for (int i = 0; i < want.length; i++) {
      due("count " + i, x.count(i), want[i]);
    }
    due("no heir", x.has(0), Due.BEYOND);
    due("no pane", x.paneIs(0, 0), Due.BEYOND);
    due("no text 0", x.untell(0), 0);
    due("no text 1", x.untell(1), 0);
    due("an heir anew", x.heir(), 0);
    due("has nothing", x.has(0), 0);
    due("a pane anew", x.pane(12, 34, 5, 0, 67), 0);
    due("of its own", x.paneIs(0, 5), 0);
    due("restore", x.restore(), 0);
    due("no pane again", x.paneIs(0, 0), Due.BEYOND);
  }

  /** In place of one ahead; how often, restored or not. */
  private static void imageInPlace() {
    FrostWills x = new FrostWills();
    for (int i = 1; i <= 20; i++) {
      x.set(0, i);
      due("image", x.image(), i);
      x.set(0, 40);
      due("restore", x.restore(), 0);
      due("the latest", x.count(2), i);
    }
  }

  /** It stays, whatever is done to what was restored. */
  private static void restoreTwice() {
    FrostWills x = Twins.house();
    for (int i = 0; i < 3; i++) {
      due("nights", x.restore(), 1);
      due("has", x.has(0), 40);
      due("worth", x.paneIs(1, 6), 9);
      due("texts", x.law(0, 5, 1, 1), 3);
      due("texts", x.law(1, 5, 1, 1), 6);
      due("waits", x.count(8), 1);
      due("is so", x.check(), 0);
      due("tape", x.text(1), 1);
      due("tape", x.law(1, 0, 0, 0), 3);
      due("z", x.seed(i), 7);
      x.become(1, 66);
      Due.row(x, 0, 8, 1, 0);
      due("reading", x.reading(0), 6);
      due("worths", x.worths(0), 2);
      x.untell(0);
      x.heir();
      x.loose(3);
      due("told", x.told(1), 0);
    }
  }

  /** All that a PANE is, of each PANE. */
  private static void restoreOfPanes() {
    int[][] is = {{1, 2, 3, 4, 5, 0, 11}, {6, 0, 1, 1, 9, 5, 99}, {4, 9, 2, 9, 0, 3, 0}};
    FrostWills x = Due.withHeirs(6);
    for (int[] p : is) {
      x.pane(10 * p[0] + p[1], 10 * p[2] + p[3], p[4], p[5], p[6]);
    }
    x.image();
    for (int i = 0; i < 3; i++) {
      x.become(i, 35);
      x.wipe(i, 5);
      x.names(i, 4);
    }
    Due.row(x, 0, 8, 50, 50, 50);
    x.worths(0);
    x.pane(1, 1, 1, 1, 1);
    x.restore();
    panesAre(x, is);
    // In an IMAGE of less there are other PANES of those numbers.
    FrostWills other = Due.withHeirs(1);
    other.image();
    other.pane(12, 34, 5, 0, 67);
    other.restore();
    other.pane(63, 11, 1, 0, 1);
    panesAre(other, new int[][] {{6, 3, 1, 1, 1, 0, 1}});
    other.image();
    other.become(0, 0);
    other.restore();
    panesAre(other, new int[][] {{6, 3, 1, 1, 1, 0, 1}});
  }

  private static void panesAre(FrostWills x, int[][] want) {
    due("panes", x.count(0), want.length);
    for (int i = 0; i < want.length; i++) {
      for (int what = 0; what < 7; what++) {
        due("paneIs " + i + " " + what, x.paneIs(i, what), want[i][what]);
      }
    }
  }

  /** Every byte of a full TAPE, and every number of 24 that wait. */
  private static void restoreOfTheTape() {
    FrostWills x = new FrostWills();
    String text = "0-1-2-3-4-5-6-7-8-9-10-11-12-13-14-15-16-17-18-19-20-21+5000";
    due("bytes", Due.write(x, text), 60);
    for (int i = 1; i <= 24; i++) {
      due("tell", x.tell(0), i);
    }
    x.image();
    due("text", x.text(1), 1);
    due("bytes", Due.write(x, text.replace('-', '+')), 60);
    x.check();
    for (int i = 1; i <= 24; i++) {
      x.tell(1);
    }
    x.restore();
    due("bytes", x.count(7), 60);
    due("numbers", x.count(8), 24);
    due("text", x.text(1), 1);
    due("law", x.law(1, 0, 0, 0), 5000 - 21 * 22 / 2);
    x.image();
    due("text of nothing", x.text(1), -10);
    for (int i = 0; i < 6; i++) {
      x.heir();
    }
    due("all six are so", x.check(), 7);
    x.restore();
    due("the text, too", x.law(1, 0, 0, 0), 5000 - 21 * 22 / 2);
  }

  /** 24 wait; one more is FULL; behind check() there is room for 24 again. */
  private static void waitingFull() {
    FrostWills x = new FrostWills();
    for (int turn = 0; turn < 3; turn++) {
      for (int i = 1; i <= 24; i++) {
        due("tell", x.tell(LEAST + i), i);
      }
      due("full", x.tell(0), Due.FULL);
      due("full", x.tell(MOST), Due.FULL);
      due("wait", x.count(8), 24);
      due("check", x.check(), 1);
      due("none wait", x.count(8), 0);
      due("check", x.check(), 0);
    }
    due("told", x.told(4), 6);
  }

  private static FrostWills sixHeirs() {
    FrostWills x = Due.withHeirs(6);
    for (int i = 0; i < 6; i++) {
      x.pane(0, 9, 0, i, i + 1);
    }
    Due.row(x, 0, 8, 0, 1, 2, 3, 4, 5);
    x.reading(0);
    return x;
  }

  /** All 6 so; each of them wrong; a seventh, for which there is no HEIR; the first of two wrong. */
  private static void checkOfAllHeirs() {
    for (int wrong = 0; wrong <= 6; wrong++) {
      FrostWills x = sixHeirs();
      for (int i = 0; i < 6; i++) {
        x.tell(i == wrong ? 6 * i + 7 : 6 * i + 6);
      }
      due("wrong at " + wrong, x.check(), wrong == 6 ? 0 : wrong + 1);
      due("none wait", x.count(8), 0);
      for (int i = 0; i < 24; i++) {
        x.tell(i == wrong ? -1 : 6 * i + 6);
      }
      due("24, wrong at " + wrong, x.check(), wrong + 1);
      due("none wait", x.count(8), 0);
    }
  }

  /** Nothing waits; no HEIRS; fewer numbers than HEIRS. */
  private static void checkOfFew() {
    FrostWills x = new FrostWills();
    due("nothing waits", x.check(), 0);
    x.tell(0);
    due("no heir 0", x.check(), 1);
    due("nothing waits", x.check(), 0);
    x.heir();
    due("nothing waits", x.check(), 0);
    x.tell(0);
    due("heir 0", x.check(), 0);
    x.tell(0);
    x.tell(0);
    due("no heir 1", x.check(), 2);
    x.heir();
    x.heir();
    x.tell(0);
    due("one of three", x.check(), 0);
    x.tell(-1);
    due("one of three", x.check(), 1);
    due("no error", x.told(1) + x.told(2) + x.told(4), 0);
  }

  private static void countEach() {
    FrostWills x = new FrostWills();
    for (int i = 1; i <= 6; i++) {
      x.heir();
      due("heirs", x.count(1), i);
    }
    x.heir();
    due("heirs", x.count(1), 6);
    for (int i = 1; i <= 8; i++) {
      x.pane(0, 9, 0, 0, 1);
      due("panes", x.count(0), i);
    }
    x.pane(0, 9, 0, 0, 1);
    due("panes", x.count(0), 8);
    for (int i = 1; i <= 60; i++) {
      x.feed('1', 1);
      due("bytes", x.count(7), i);
    }
    x.feed('1', 1);
    due("bytes", x.count(7), 60);
    for (int i = 1; i <= 24; i++) {
      x.tell(0);
      due("numbers", x.count(8), i);
    }
    x.tell(0);
    due("numbers", x.count(8), 24);
    due("cold", x.set(0, 0) * 100 + x.count(2), 1200);
    due("cold", x.set(0, 40) * 100 + x.count(2), 40);
    due("hour", x.set(1, 0) * 100 + x.count(3), 600);
    due("hour", x.set(1, 23) * 100 + x.count(3), 23);
    due("lamp", x.set(2, 1) * 100 + x.count(4), 1);
    due("lamp", x.set(2, 0) * 100 + x.count(4), 100);
    due("told FULL", x.told(4), 4);
  }

  /** Each k by itself, one by one; what answers no ERROR is not told. */
  private static void toldEach() {
    Twins.Act[] acts = {
      x -> x.count(11), x -> x.body(30), x -> x.sheet(0, 8, -1), FrostWills::heir,
      x -> x.as(0, 1), x -> x.voice(0, 3, 5)
    };
    FrostWills x = Due.withHeirs(6);
    x.pane(0, 0, 0, 0, 0);
    int[] want = new int[7];
    for (int turn = 0; turn < 3; turn++) {
      for (int k = 1; k <= 6; k++) {
        due("act " + k, acts[k - 1].on(x), Due.LOW - k);
        want[k]++;
        for (int j = 1; j <= 6; j++) {
          due("told " + j, x.told(j), want[j]);
        }
      }
    }
    due("told 0", x.told(0), Due.BEYOND);
    due("told 7", x.told(7), Due.BEYOND);
    due("counted", x.told(1), 5);
    due("a fault", x.text(0), -10);
    due("a wrong number", x.tell(1) * 10 + x.check(), 11);
    due("a voice like an ERROR", x.voice(0, 0, Due.FULL), Due.FULL);
    due("a z like an ERROR", x.seed(Due.FULL) + x.count(10) - Due.FULL, 1);
    due("not counted", x.told(4), 3);
  }

  /** An object is good for 512 calls. */
  private static void theLastCall() {
    FrostWills x = new FrostWills();
    for (int i = 0; i < 511; i++) {
      due("told", x.told(7), Due.BEYOND);
    }
    due("the last call", x.told(1), 511);
    x = new FrostWills();
    for (int i = 0; i < 256; i++) {
      due("image", x.image(), i + 1);
      due("restore", x.restore(), 0);
    }
  }

  /** Two objects have nothing in common. */
  private static void apart() {
    FrostWills one = Twins.house();
    FrostWills other = new FrostWills();
    due("heirs", other.count(1), 0);
    due("sheet", other.worths(0), Due.NONE);
    due("image", other.restore(), Due.NONE);
    due("body", other.body(0), Due.NONE);
    due("law", other.law(1, 2, 3, 4), 6);
    other.seed(9);
    due("z", one.count(10), -5);
  }
}
