/**
 * Promise by promise, each ERROR that hangs on what there is (not on a number's bounds alone, which
 * BoundsTest has), the last call ahead of it that is taken, and which ERROR is asked first where
 * two would be due. What is refused, or only thought, changes nothing but what told() tells.
 */
public final class RefusedTest {
  private static final int[][] NO_ROUNDS = {
    {}, {3}, {3, 1, 0}, {1, 2, 3}, {3, 2, 1}, {3, 1, 0, 2, 4}, {3, 1, 0, 2, 2}, {3, 1, 0, 3},
    {3, 1, 0, 4}, {3, 1, 0, -1}, {0, 0, 0, 0}, {1, 2, 3, 4}, {3, 1, 0, 32}, {3, 1, 0, 34},
    {3, 1, 0, 256 + 2}, {3, 1, 0, 65536 + 2},
    {0, 1, 2, 3, 4, 5, 6, 7, 8, 9, 10, 11, 12, 13, 14, 15, 16, 17, 18, 19, 20, 21, 22, 23}
  };

  public static void main(String[] args) {
    heir();
    pane();
    withoutPanes();
    withoutHeirs();
    as();
    feed();
    text();
    untold();
    round();
    reading();
    loose();
    best();
    share();
    coldFor();
    breath();
    fits();
    voice();
    body();
    sheet();
    put();
    moveAhead();
    moveLast();
    worthsAndJudge();
    restore();
    tell();
    told();
    severalAtOnce();
    onlyThought();
    Due.end("RefusedTest");
  }

  private static void refused(String call, Twins.Maker maker, Twins.Act act, int error) {
    Twins.refused(call, maker, act, error);
  }

  /** Of a house. */
  private static void refused(String call, Twins.Act act, int error) {
    Twins.refused(call, Twins::house, act, error);
  }

  /** Promise 2: FULL. */
  private static void heir() {
    Due.due("the sixth heir", Twins.crowd(5, 0).heir(), 5);
    refused("the seventh heir", () -> Twins.crowd(6, 0), FrostWills::heir, Due.FULL);
    refused("the seventh heir, with panes", () -> Twins.crowd(6, 2), FrostWills::heir, Due.FULL);
  }

  /** Promise 3: BEYOND, then FULL. */
  private static void pane() {
    Twins.Maker full = () -> Twins.crowd(1, 8);
    Due.due("the eighth pane", Twins.crowd(1, 7).pane(0, 0, 0, 0, 0), 7);
    refused("the ninth pane", full, x -> x.pane(0, 0, 0, 0, 0), Due.FULL);
    refused("pane km ahead of FULL", full, x -> x.pane(70, 0, 0, 0, 0), Due.BEYOND);
    refused("pane fc ahead of FULL", full, x -> x.pane(0, 40, 0, 0, 0), Due.BEYOND);
    refused("pane floor ahead of FULL", full, x -> x.pane(0, 0, 10, 0, 0), Due.BEYOND);
    refused("pane heir ahead of FULL", full, x -> x.pane(0, 0, 0, 1, 0), Due.BEYOND);
    refused("pane worth ahead of FULL", full, x -> x.pane(0, 0, 0, 0, 100), Due.BEYOND);
  }

  /** No PANES: pane 0 is BEYOND for each promise that asks for one, ahead of what else is due. */
  private static void withoutPanes() {
    Twins.Maker none = () -> Twins.crowd(1, 0);
    refused("paneIs", none, x -> x.paneIs(0, 0), Due.BEYOND);
    refused("become", none, x -> x.become(0, 0), Due.BEYOND);
    refused("as", none, x -> x.as(0, 0), Due.BEYOND);
    refused("wipe", none, x -> x.wipe(0, 0), Due.BEYOND);
    refused("names", none, x -> x.names(0, 0), Due.BEYOND);
    refused("left", none, x -> x.left(0, 0), Due.BEYOND);
    refused("coldFor", none, x -> x.coldFor(0, 0), Due.BEYOND);
    refused("coldFor ahead of NONE", none, x -> x.coldFor(0, 99), Due.BEYOND);
    refused("odds", none, x -> x.odds(0, 0, 0, 0), Due.BEYOND);
    refused("voice", none, x -> x.voice(0, 0, 0), Due.BEYOND);
    refused("voice ahead of PARTED", none, x -> x.voice(0, 3, 0), Due.BEYOND);
    refused("best at 0", none, x -> x.best(0), Due.NONE);
    refused("breath of 1", none, x -> x.breath(0, 1, 0), Due.NONE);
    refused("breath of 1", none, x -> x.breath(0, 1, 1), Due.NONE);
  }

  /** No HEIRS: heir 0 is BEYOND for each promise that asks for one. */
  private static void withoutHeirs() {
    refused("pane", FrostWills::new, x -> x.pane(0, 0, 0, 0, 0), Due.BEYOND);
    refused("has", FrostWills::new, x -> x.has(0), Due.BEYOND);
    refused("share", FrostWills::new, x -> x.share(0), Due.BEYOND);
    refused("share of -1", FrostWills::new, x -> x.share(-1), Due.BEYOND);
    refused("breath", FrostWills::new, x -> x.breath(0, 0, 0), Due.BEYOND);
    Twins.onlyThought("has -1", FrostWills::new, x -> x.has(-1), 0);
  }

  /** Promise 6: BEYOND, then KIND. */
  private static void as() {
    String[] above = {"0", "01", "02", "03", "014", "025", "06"};
    for (int kind = 0; kind < 7; kind++) {
      int km = 10 * kind + 7;
      Twins.Maker maker = () -> {
        FrostWills x = Twins.house();
        x.become(0, km);
        return x;
      };
      for (int as = 0; as < 7; as++) {
        int asked = as;
        String call = "kind " + kind + " as " + as;
        if (above[kind].indexOf('0' + as) >= 0) {
          Twins.onlyThought(call, maker, x -> x.as(0, asked), 7);
        } else {
          refused(call, maker, x -> x.as(0, asked), Due.KIND);
        }
      }
    }
    refused("no pane, of another kind", x -> x.as(4, 6), Due.BEYOND);
    refused("no kind, of another kind", x -> x.as(0, 7), Due.BEYOND);
  }

  private static FrostWills withTape(int bytes) {
    FrostWills x = Twins.house();
    for (int i = x.count(7); i < bytes; i++) {
      x.feed('1' + 256L, 1);
    }
    return x;
  }

  /** Promise 11: BEYOND, then FULL. */
  private static void feed() {
    Due.due("feed to 60", withTape(59).feed('1', 1), 60);
    Due.due("feed to 60", withTape(52).feed('1', 8), 60);
    refused("feed to 61", () -> withTape(60), x -> x.feed('1', 1), Due.FULL);
    refused("feed to 61", () -> withTape(59), x -> x.feed('1', 2), Due.FULL);
    refused("feed to 61", () -> withTape(53), x -> x.feed('1', 8), Due.FULL);
    refused("feed to 68", () -> withTape(60), x -> x.feed('1', 8), Due.FULL);
    refused("feed of 0 bytes ahead of FULL", () -> withTape(60), x -> x.feed('1', 0), Due.BEYOND);
    refused("feed of 9 bytes ahead of FULL", () -> withTape(60), x -> x.feed('1', 9), Due.BEYOND);
    refused("feed of the most", () -> withTape(60), x -> x.feed('1', Integer.MAX_VALUE), Due.BEYOND);
  }

  /** Promise 12: BEYOND, with any TAPE. */
  private static void text() {
    for (int use : new int[] {-1, 2}) {
      refused("text of an empty tape", () -> withEmptyTape(), x -> x.text(use), Due.BEYOND);
      refused("text of a full tape", () -> withTape(60), x -> x.text(use), Due.BEYOND);
    }
  }

  private static FrostWills withEmptyTape() {
    FrostWills x = Twins.house();
    x.text(0);
    return x;
  }

  /** Promises 13 and 14: BEYOND with no TEXTS, too. */
  private static void untold() {
    refused("untell 2", FrostWills::new, x -> x.untell(2), Due.BEYOND);
    refused("untell -1", FrostWills::new, x -> x.untell(-1), Due.BEYOND);
    Twins.onlyThought("untell 0", FrostWills::new, x -> x.untell(0), 0);
    Twins.onlyThought("untell 1", FrostWills::new, x -> x.untell(1), 0);
    refused("law 2", FrostWills::new, x -> x.law(2, 0, 0, 0), Due.BEYOND);
    refused("law -1", FrostWills::new, x -> x.law(-1, 0, 0, 0), Due.BEYOND);
  }

  private static FrostWills withRow(FrostWills x, int... numbers) {
    Due.row(x, 2, 32, numbers);
    return x;
  }

  /** Promise 15: BEYOND, NONE. */
  private static void round() {
    refused("round of a missing sheet", x -> x.round(3), Due.NONE);
    for (int[] row : NO_ROUNDS) {
      refused("round", () -> withRow(Twins.house(), row), x -> x.round(2), Due.NONE);
    }
    refused("round of no panes, a number", () -> withRow(new FrostWills(), 0), x -> x.round(2), Due.NONE);
    refused("round of one pane, no numbers", () -> withRow(Twins.crowd(1, 1)), x -> x.round(2), Due.NONE);
    Due.due("round of no panes, no numbers", withRow(new FrostWills()).round(2), 0);
    Due.due("round of one pane", withRow(Twins.crowd(1, 1), 0).round(2), 0);
    Due.due("round of 8", withRow(Twins.crowd(1, 8), 7, 6, 5, 4, 3, 2, 1, 0).round(2), 6 * 28);
  }

  /** Promise 16: BEYOND, NONE, STATE. */
  private static void reading() {
    refused("reading of a missing sheet", x -> x.reading(3), Due.NONE);
    for (int[] row : NO_ROUNDS) {
      refused("reading", () -> withRow(Twins.house(), row), x -> x.reading(2), Due.NONE);
    }
    refused("reading of one pane, no numbers", () -> withRow(Twins.crowd(1, 1)), w -> w.reading(2), Due.NONE);
    FrostWills x = Twins.late(9998);
    Due.due("the last night that is read", x.reading(0), 0);
    Due.due("nights", x.count(5), 9999);
    Due.due("no night more", x.reading(0), Due.STATE);
    refused("reading after 9999", () -> Twins.late(9999), w -> w.reading(0), Due.STATE);
    refused("missing, after 9999", () -> Twins.late(9999), w -> w.reading(3), Due.NONE);
    refused("no round, after 9999", () -> withRow(Twins.late(9999), 1), w -> w.reading(2), Due.NONE);
    refused("no sheet, after 9999", () -> Twins.late(9999), w -> w.reading(4), Due.BEYOND);
  }

  /** Promise 17: BEYOND, STATE. */
  private static void loose() {
    FrostWills x = Twins.late(9969);
    Due.due("30 to 9999", x.loose(30) < Due.LOW ? 1 : 0, 0);
    Due.due("nights", x.count(5), 9999);
    x = Twins.late(9998);
    Due.due("1 to 9999", x.loose(1) < Due.LOW ? 1 : 0, 0);
    Due.due("nights", x.count(5), 9999);
    refused("30 to 10000", () -> Twins.late(9970), w -> w.loose(30), Due.STATE);
    refused("2 to 10000", () -> Twins.late(9998), w -> w.loose(2), Due.STATE);
    refused("1 to 10000", () -> Twins.late(9999), w -> w.loose(1), Due.STATE);
    refused("31, after 9999", () -> Twins.late(9999), w -> w.loose(31), Due.BEYOND);
    refused("0, after 9999", () -> Twins.late(9999), w -> w.loose(0), Due.BEYOND);
  }

  /** Promise 20: BEYOND, STATE, NONE. */
  private static void best() {
    for (int panes = 7; panes <= 8; panes++) {
      int many = panes;
      for (int what = -1; what <= 5; what++) {
        int asked = what;
        refused("best of " + panes, () -> Twins.crowd(1, many), x -> x.best(asked), Due.STATE);
      }
      refused("best ahead of STATE", () -> Twins.crowd(1, many), x -> x.best(6), Due.BEYOND);
      refused("best ahead of STATE", () -> Twins.crowd(1, many), x -> x.best(-2), Due.BEYOND);
    }
    for (int panes = 0; panes <= 6; panes++) {
      int many = panes;
      for (int what = 0; what <= 5; what++) {
        int asked = what;
        if (what < panes) {
          Twins.onlyThought("best", () -> Twins.crowd(1, many), x -> x.best(asked), what);
        } else {
          refused("best of " + panes, () -> Twins.crowd(1, many), x -> x.best(asked), Due.NONE);
        }
      }
      refused("best ahead of NONE", () -> Twins.crowd(1, many), x -> x.best(6), Due.BEYOND);
    }
  }

  /** Promise 21: BEYOND, STATE. */
  private static void share() {
    for (int panes = 7; panes <= 8; panes++) {
      int many = panes;
      refused("share of " + panes, () -> Twins.crowd(2, many), x -> x.share(0), Due.STATE);
      refused("share of nothing", () -> Twins.crowd(2, many), x -> x.share(1), Due.STATE);
      refused("share ahead of STATE", () -> Twins.crowd(2, many), x -> x.share(2), Due.BEYOND);
      refused("share ahead of STATE", () -> Twins.crowd(2, many), x -> x.share(-1), Due.BEYOND);
    }
    Due.due("share of 6", Twins.crowd(2, 6).share(0), 90);
  }

  /** Promise 22: BEYOND, NONE: not by 40. */
  private static void coldFor() {
    Due.due("by 40 alone", Twins.house().coldFor(0, 13), 40);
    refused("not by 40", x -> x.coldFor(0, 14), Due.NONE);
    refused("not by far", x -> x.coldFor(0, 99), Due.NONE);
    refused("no pane, ahead of NONE", x -> x.coldFor(4, 99), Due.BEYOND);
    refused("no s, ahead of NONE", x -> x.coldFor(0, 100), Due.BEYOND);
  }

  /** Promise 23: BEYOND, NONE: by no set. All 90 of crowd(2, 6) are heir 0's. */
  private static void breath() {
    Twins.Maker six = () -> Twins.crowd(2, 6);
    Twins.onlyThought("all there is", six, x -> x.breath(0, 90, 0), 0);
    for (int what = 0; what <= 1; what++) {
      int asked = what;
      refused("one more", six, x -> x.breath(0, 91, asked), Due.NONE);
      refused("of nothing", six, x -> x.breath(1, 1, asked), Due.NONE);
      refused("no heir, ahead of NONE", six, x -> x.breath(2, 91, asked), Due.BEYOND);
      refused("no v, ahead of NONE", six, x -> x.breath(0, 100000, asked), Due.BEYOND);
    }
    refused("no what, ahead of NONE", six, x -> x.breath(0, 91, 2), Due.BEYOND);
  }

  /** Promise 25: BEYOND, NONE. Sheet 2 has 21 and 22, which are never left. */
  private static void fits() {
    for (int what = 0; what <= 1; what++) {
      int asked = what;
      refused("missing", x -> x.fits(3, 0, asked), Due.NONE);
      refused("missing, no hour", x -> x.fits(3, 24, asked), Due.BEYOND);
      refused("missing, hour -1", x -> x.fits(3, -1, asked), Due.BEYOND);
      refused("no hour, ahead of none least", x -> x.fits(2, 24, asked), Due.BEYOND);
    }
    refused("missing, no what", x -> x.fits(3, 0, 2), Due.BEYOND);
    refused("missing, what -1", x -> x.fits(3, 0, -1), Due.BEYOND);
    Twins.onlyThought("how many", Twins::house, x -> x.fits(2, 0, 0), 0);
    refused("none least", x -> x.fits(2, 0, 1), Due.NONE);
  }

  /** Pane 3 has m 3; that its voice parts has told already, so that the TRACE is the same. */
  private static FrostWills parted() {
    FrostWills x = Twins.house();
    x.become(3, 63);
    x.voice(3, 3, 7);
    return x;
  }

  /** Promise 26: BEYOND, PARTED. */
  private static void voice() {
    for (int v : new int[] {7, 0, -1, Integer.MIN_VALUE, Integer.MAX_VALUE}) {
      refused("voice parts", RefusedTest::parted, x -> x.voice(3, 3, v), Due.PARTED);
    }
    refused("no voice, ahead of PARTED", RefusedTest::parted, x -> x.voice(3, 4, 7), Due.BEYOND);
    refused("no voice, ahead of PARTED", RefusedTest::parted, x -> x.voice(3, -1, 7), Due.BEYOND);
    refused("no pane, ahead of PARTED", RefusedTest::parted, x -> x.voice(4, 3, 7), Due.BEYOND);
  }

  /** Promise 27: NONE, with no TRACE yet, with one, with that of a voice that was PARTED. */
  private static void body() {
    refused("no voice yet", () -> Twins.crowd(1, 1), x -> x.body(0), Due.NONE);
    refused("the fourth of three", x -> x.body(3), Due.NONE);
    Twins.onlyThought("the third of three", Twins::house, x -> x.body(2), 70);
    Twins.onlyThought("the first of one", RefusedTest::parted, x -> x.body(0), 13);
    refused("the second of one", RefusedTest::parted, x -> x.body(1), Due.NONE);
  }

  /** Promise 28: BEYOND, STATE, BEYOND of n. */
  private static void sheet() {
    refused("sheet ahead of STATE", x -> x.sheet(4, 8, -1), Due.BEYOND);
    refused("sheet ahead of STATE", x -> x.sheet(-1, 8, -1), Due.BEYOND);
    refused("bits ahead of STATE", x -> x.sheet(0, 9, -1), Due.BEYOND);
    refused("bits ahead of STATE", x -> x.sheet(3, -8, -1), Due.BEYOND);
    refused("no sheet of 0 bits", x -> x.sheet(4, 0, 0), Due.BEYOND);
    refused("no sheet of 0 bits", x -> x.sheet(-1, 0, -1), Due.BEYOND);
    for (int s = 0; s < 4; s++) {
      int asked = s;
      refused("n -1", x -> x.sheet(asked, 16, -1), Due.STATE);
      refused("n 25", x -> x.sheet(asked, 16, 25), Due.BEYOND);
    }
  }

  /** Promise 29: BEYOND: no sheet, NONE, BEYOND: no number. Sheet 1 has 3 numbers, sheet 3 is missing. */
  private static void put() {
    refused("no sheet, no number", x -> x.put(4, 24, 1), Due.BEYOND);
    refused("missing", x -> x.put(3, 0, 1), Due.NONE);
    refused("missing, number -1", x -> x.put(3, -1, 1), Due.NONE);
    refused("missing, number 24", x -> x.put(3, 24, 1), Due.NONE);
    refused("no number", x -> x.put(1, 3, 1), Due.BEYOND);
    refused("number -1", x -> x.put(1, -1, 1), Due.BEYOND);
    refused("was there once", () -> shrunk(), x -> x.put(0, 2, 1), Due.BEYOND);
  }

  private static FrostWills shrunk() {
    FrostWills x = Twins.house();
    x.sheet(0, 8, 2);
    return x;
  }

  /** Promise 30: BEYOND: no sheet, NONE, KIND. Sheets 0 to 2 have unlike bits, sheet 3 is missing. */
  private static void moveAhead() {
    refused("no sheet, missing", x -> x.move(4, 0, 3, 0, 1), Due.BEYOND);
    refused("missing, no sheet", x -> x.move(3, 0, 4, 0, 1), Due.BEYOND);
    refused("no sheet, n -1", x -> x.move(-1, 0, 0, 0, -1), Due.BEYOND);
    refused("missing, n -1", x -> x.move(3, 0, 0, 0, -1), Due.NONE);
    refused("other missing, i -1", x -> x.move(0, -1, 3, 0, 1), Due.NONE);
    refused("both missing", x -> x.move(3, 0, 3, 0, 1), Due.NONE);
    refused("missing, n 0", x -> x.move(3, 0, 3, 0, 0), Due.NONE);
    int[][] unlike = {{0, 1}, {1, 0}, {0, 2}, {2, 0}, {1, 2}, {2, 1}};
    for (int[] u : unlike) {
      refused("unlike", x -> x.move(u[0], 0, u[1], 0, 1), Due.KIND);
      refused("unlike, n 0", x -> x.move(u[0], 0, u[1], 0, 0), Due.KIND);
      refused("unlike, n -1", x -> x.move(u[0], 0, u[1], 0, -1), Due.KIND);
      refused("unlike, i -1", x -> x.move(u[0], -1, u[1], 0, 1), Due.KIND);
      refused("unlike, j 24", x -> x.move(u[0], 0, u[1], 24, 1), Due.KIND);
    }
  }

  private static FrostWills withTwoLikeSheets() {
    FrostWills x = Twins.house();
    Due.row(x, 3, 8, 51, 52);
    return x;
  }

  /** Promise 30: BEYOND: n, i, or j. Sheet 0 has 4 numbers, sheet 3 has 2 of as many bits. */
  private static void moveLast() {
    int[][] wrong = {
      {0, 0, 3, 0, 3}, {3, 0, 0, 0, 3}, {0, 3, 3, 0, 2}, {0, 0, 3, 1, 2}, {0, 4, 3, 0, 1},
      {0, 0, 3, 2, 1}, {0, 5, 3, 0, 0}, {0, 0, 3, 3, 0}, {0, -1, 3, 0, 1}, {0, 0, 3, -1, 1},
      {0, 0, 3, 0, -1}, {0, -1, 3, 0, 0}, {0, 0, 3, -1, 0}, {0, 1, 0, 0, 4}, {0, 0, 0, 1, 4}
    };
    for (int[] w : wrong) {
      refused("they don't stand there", RefusedTest::withTwoLikeSheets,
          x -> x.move(w[0], w[1], w[2], w[3], w[4]), Due.BEYOND);
    }
    Due.due("the last two", withTwoLikeSheets().move(0, 2, 3, 0, 2), 2);
    Due.due("behind the last", withTwoLikeSheets().move(0, 4, 3, 2, 0), 0);
    Twins.onlyThought("onto itself", Twins::house, x -> x.move(0, 0, 0, 0, 4), 4);
  }

  /** Promises 31 and 32: BEYOND, NONE. */
  private static void worthsAndJudge() {
    refused("worths of a missing sheet", x -> x.worths(3), Due.NONE);
    refused("judge of a missing sheet", x -> x.judge(3), Due.NONE);
    refused("worths, no panes", FrostWills::new, x -> x.worths(0), Due.NONE);
    refused("judge, no panes", FrostWills::new, x -> x.judge(0), Due.NONE);
  }

  /** Promise 34: NONE. */
  private static void restore() {
    refused("no image", FrostWills::new, FrostWills::restore, Due.NONE);
    refused("no image", () -> Twins.crowd(6, 8), FrostWills::restore, Due.NONE);
  }

  private static FrostWills withWaiting(int n) {
    FrostWills x = Twins.house();
    while (x.count(8) < n) {
      x.tell(x.count(8) == 2 ? 6 : 7);
    }
    return x;
  }

  /** Promise 35: FULL. */
  private static void tell() {
    Due.due("the last that waits", withWaiting(23).tell(7), 24);
    refused("24 wait", () -> withWaiting(24), x -> x.tell(7), Due.FULL);
    refused("24 wait, by any number", () -> withWaiting(24), x -> x.tell(-1), Due.FULL);
  }

  /** Promise 38: another k is counted, too. */
  private static void told() {
    FrostWills x = new FrostWills();
    int[] other = {0, 7, -1, Due.LOW, Due.BEYOND, Integer.MIN_VALUE, Integer.MAX_VALUE};
    for (int i = 0; i < other.length; i++) {
      Due.due("told of " + other[i], x.told(other[i]), Due.BEYOND);
      Due.due("counted", x.told(1), i + 1);
    }
  }

  /** Where several numbers of a call are refused, it is one ERROR. */
  private static void severalAtOnce() {
    refused("pane", x -> x.pane(-1, -1, -1, -1, -1), Due.BEYOND);
    refused("pane", x -> x.pane(70, 40, 10, 3, 100), Due.BEYOND);
    refused("paneIs", x -> x.paneIs(4, 8), Due.BEYOND);
    refused("become", x -> x.become(4, 70), Due.BEYOND);
    refused("as", x -> x.as(4, 7), Due.BEYOND);
    refused("wipe", x -> x.wipe(4, 10), Due.BEYOND);
    refused("names", x -> x.names(4, 3), Due.BEYOND);
    refused("set", x -> x.set(3, 41), Due.BEYOND);
    refused("left", x -> x.left(4, 24), Due.BEYOND);
    refused("coldFor", x -> x.coldFor(4, 100), Due.BEYOND);
    refused("breath", x -> x.breath(3, 100000, 2), Due.BEYOND);
    refused("odds", x -> x.odds(4, 100, 24, 2), Due.BEYOND);
    refused("fits", x -> x.fits(4, 24, 2), Due.BEYOND);
    refused("voice", x -> x.voice(4, 4, 0), Due.BEYOND);
    refused("sheet", x -> x.sheet(4, 7, 25), Due.BEYOND);
    refused("put", x -> x.put(4, -1, 0), Due.BEYOND);
    refused("move", x -> x.move(4, -1, -1, 25, -1), Due.BEYOND);
    refused("move", x -> x.move(0, 5, 0, 5, 5), Due.BEYOND);
  }

  /** What asks and what only thinks leaves all as it was. */
  private static void onlyThought() {
    Twins.Maker house = Twins::house;
    Twins.onlyThought("paneIs", house, x -> x.paneIs(0, 7), 11);
    Twins.onlyThought("has", house, x -> x.has(1), 101);
    Twins.onlyThought("law 0", house, x -> x.law(0, 9, 0, 2), 6);
    Twins.onlyThought("law 1", house, x -> x.law(1, 9, 2, 1), 21);
    Twins.onlyThought("round", house, x -> x.round(0), 79);
    Twins.onlyThought("left", house, x -> x.left(0, 9), 7);
    Twins.onlyThought("best", () -> Twins.crowd(2, 6), x -> x.best(-1), 90);
    Twins.onlyThought("share", () -> Twins.crowd(2, 6), x -> x.share(0), 90);
    Twins.onlyThought("coldFor", house, x -> x.coldFor(0, 13), 40);
    Twins.onlyThought("breath", house, x -> x.breath(0, 0, 1), 0);
    Twins.onlyThought("odds", house, x -> x.odds(0, 10, 0, 0), 13);
    Twins.onlyThought("fits", house, x -> x.fits(2, 0, 0), 0);
    Twins.onlyThought("body", house, x -> x.body(0), 71);
    Twins.onlyThought("judge", house, x -> x.judge(0), 0);
    Twins.onlyThought("count", house, x -> x.count(10), -5);
    Twins.onlyThought("told", house, x -> x.told(1), 0);
  }
}
