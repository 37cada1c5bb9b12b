import java.io.IOException;

/** The document from its first promise to its last line, sentence by sentence. */
public final class PromisesWalkTest {
  private static final int LEAST = Integer.MIN_VALUE;
  private static final int MOST = Integer.MAX_VALUE;
  private static Walk walk;

  public static void main(String[] args) throws IOException {
    walk = new Walk("## Promise 1:", "");
    newObject();
    heirAndPane();
    whatAPaneIs();
    changes();
    hasAndSet();
    feed();
    text();
    untellAndLaw();
    round();
    reading();
    byDraws();
    left();
    best();
    share();
    coldFor();
    breath();
    oddsAndFits();
    voices();
    sheet();
    put();
    move();
    worths();
    judge();
    images();
    waiting();
    counted();
    notPromised();
    walk.end();
    Due.end("PromisesWalkTest");
  }

  private static void is(long got, long want) {
    walk.is(got, want);
  }

  private static void newObject() {
    walk.promise(1, "A new object", "FrostWills()");
    walk.says("All as at first; no PANES, no HEIRS, no TEXTS.");
    FrostWills x = new FrostWills();
    int[] counts = {0, 0, 12, 6, 0, 0, 0, 0, 0, 0, 1};
    for (int what = 0; what < counts.length; what++) {
      is(x.count(what), counts[what]);
    }
    is(x.untell(0) + x.untell(1), 0);
    is(x.paneIs(0, 0), Due.BEYOND);
    is(x.has(0), Due.BEYOND);
    is(x.worths(0), Due.NONE);
    is(x.restore(), Due.NONE);
    is(x.told(1) * 10 + x.told(2), 22);
    is(x.told(3) + x.told(4) + x.told(5) + x.told(6), 0);
  }

  private static void heirAndPane() {
    walk.promise(2, "heir", "int heir()");
    walk.says("One more HEIR: the number.");
    FrostWills x = new FrostWills();
    for (int i = 0; i < 6; i++) {
      is(x.heir(), i);
    }
    walk.says("FULL.");
    is(x.heir(), Due.FULL);
    is(x.count(1), 6);
    walk.promise(3, "pane", "int pane(int km, int fc, int floor, int heir, int worth)");
    walk.says("One more PANE (km: 10 times the KIND, and m; fc: 10 times FACING, and CLEAN): the number.");
    is(x.pane(47, 28, 3, 5, 66), 0);
    is(x.paneIs(0, 0) * 10 + x.paneIs(0, 1), 47);
    is(x.paneIs(0, 2) * 10 + x.paneIs(0, 3), 28);
    for (int i = 1; i < 8; i++) {
      is(x.pane(i, i, i, 0, i), i);
    }
    walk.says("BEYOND.");
    int[][] beyond = {
      {-1, 0, 0, 0, 0}, {70, 0, 0, 0, 0}, {0, -1, 0, 0, 0}, {0, 40, 0, 0, 0}, {0, 0, -1, 0, 0},
      {0, 0, 10, 0, 0}, {0, 0, 0, -1, 0}, {0, 0, 0, 6, 0}, {0, 0, 0, 0, -1}, {0, 0, 0, 0, 100}
    };
    for (int[] b : beyond) {
      is(x.pane(b[0], b[1], b[2], b[3], b[4]), Due.BEYOND);
    }
    walk.says("FULL.");
    is(x.pane(0, 0, 0, 0, 0), Due.FULL);
    is(x.count(0), 8);
  }

  private static void whatAPaneIs() {
    walk.promise(4, "paneIs", "int paneIs(int pane, int what)");
    walk.says("Of a PANE: 0 KIND, 1 m, 2 FACING, 3 CLEAN, 4 FLOOR, 5 HEIR, 6 WORTH, 7 STROKES.");
    FrostWills x = Due.withHeirs(5);
    x.set(0, 33);
    x.pane(12, 36, 5, 4, 67);
    int[] is = {1, 2, 3, 6, 5, 4, 67, (8 + 2) / 2};
    for (int what = 0; what < is.length; what++) {
      is(x.paneIs(0, what), is[what]);
    }
    walk.says("BEYOND.");
    is(x.paneIs(1, 0), Due.BEYOND);
    is(x.paneIs(-1, 0), Due.BEYOND);
    is(x.paneIs(0, 8), Due.BEYOND);
    is(x.paneIs(0, -1), Due.BEYOND);
  }

  private static void changes() {
    walk.promise(5, "become", "int become(int pane, int km)");
    walk.says("A PANE becomes one of a KIND, with m (km): the KIND that it was.");
    FrostWills x = Due.withHeirs(2);
    x.pane(12, 36, 5, 1, 67);
    is(x.become(0, 58), 1);
    is(x.paneIs(0, 0), 5);
    is(x.paneIs(0, 1), 8);
    is(x.become(0, 58), 5);
    walk.says("BEYOND.");
    is(x.become(1, 0), Due.BEYOND);
    is(x.become(0, 70), Due.BEYOND);
    is(x.become(0, -1), Due.BEYOND);
    walk.promise(6, "as", "int as(int pane, int kind)");
    walk.says("A PANE as one of a KIND: m.");
    is(x.as(0, 5), 8);
    is(x.as(0, 2), 8);
    is(x.as(0, 0), 8);
    walk.says("BEYOND.");
    is(x.as(1, 0), Due.BEYOND);
    is(x.as(0, 7), Due.BEYOND);
    is(x.as(0, -1), Due.BEYOND);
    walk.says("KIND: it isn't of that KIND, nor of one under it.");
    is(x.as(0, 1), Due.KIND);
    x.become(0, 20);
    is(x.as(0, 5), Due.KIND);
    walk.promise(7, "wipe", "int wipe(int pane, int clean)");
    walk.says("CLEAN of a PANE becomes so: what it was.");
    is(x.wipe(0, 9), 6);
    is(x.wipe(0, 0), 9);
    is(x.paneIs(0, 3), 0);
    walk.says("BEYOND.");
    is(x.wipe(1, 0), Due.BEYOND);
    is(x.wipe(0, 10), Due.BEYOND);
    is(x.wipe(0, -1), Due.BEYOND);
    walk.promise(8, "names", "int names(int pane, int heir)");
    walk.says("A PANE is for an HEIR: for whom it was.");
    is(x.names(0, 0), 1);
    is(x.names(0, 1), 0);
    is(x.paneIs(0, 5), 1);
    walk.says("BEYOND.");
    is(x.names(1, 0), Due.BEYOND);
    is(x.names(0, 2), Due.BEYOND);
    is(x.names(0, -1), Due.BEYOND);
  }

  /**
   * Hour 9, COLD 40. Pane 0: 13 STROKES that melt by 1, of worth 5, for HEIR 0; pane 1: 6 that melt
   * by 1, of worth 9, for HEIR 1; both east. SHEET 0 has 0 and 1, SHEET 1 has 1 and 0.
   */
  private static FrostWills house() {
    FrostWills x = Due.withHeirs(2);
    x.set(0, 40);
    x.set(1, 9);
    x.pane(0, 19, 0, 0, 5);
    x.pane(15, 19, 4, 1, 9);
    Due.row(x, 0, 8, 0, 1);
    Due.row(x, 1, 16, 1, 0);
    return x;
  }

  private static void hasAndSet() {
    walk.promise(9, "has", "int has(int heir)");
    walk.says("What an HEIR HAS (-1: THE CHURCH).");
    FrostWills x = house();
    x.reading(0);
    is(x.has(0), 11 * 5);
    is(x.has(1), 3 * 9);
    is(x.has(-1), (13 - 11) * 5 + (6 - 3) * 9);
    walk.says("BEYOND.");
    is(x.has(2), Due.BEYOND);
    is(x.has(-2), Due.BEYOND);
    walk.promise(10, "set", "int set(int what, int v)");
    walk.says("COLD (what 0), HOUR (1), LAMP (2) becomes v: what it was.");
    is(x.set(0, 17), 40);
    is(x.set(1, 18), 9);
    is(x.set(2, 1), 0);
    is(x.count(2) * 10000 + x.count(3) * 100 + x.count(4), 171801);
    walk.says("BEYOND.");
    is(x.set(3, 0), Due.BEYOND);
    is(x.set(-1, 0), Due.BEYOND);
    is(x.set(0, 41), Due.BEYOND);
    is(x.set(1, -1), Due.BEYOND);
    is(x.set(2, 2), Due.BEYOND);
  }

  private static void feed() {
    walk.promise(11, "feed", "int feed(long word, int n)");
    walk.says("The n lowest bytes (1 .. 8) of a word, the lowest first, come to THE TAPE: how many there"
        + " are.");
    FrostWills x = new FrostWills();
    is(x.feed(0xFFFFFF2B342D3239L, 4), 4);
    is(x.feed('1', 1), 5);
    is(x.text(1), 1);
    is(x.law(1, 0, 0, 0), 92 - 41);
    is(x.feed(0x312B342D322B3139L, 8), 8);
    is(x.text(1), 1);
    is(x.law(1, 0, 0, 0), 91 + 2 - 4 + 1);
    walk.says("BEYOND.");
    is(x.feed('1', 0), Due.BEYOND);
    is(x.feed('1', 9), Due.BEYOND);
    is(x.feed('1', -1), Due.BEYOND);
    is(x.count(7), 0);
    walk.says("FULL.");
    for (int i = 1; i <= 7; i++) {
      x.feed(-1L, 8);
    }
    is(x.feed(-1L, 5), Due.FULL);
    is(x.feed(-1L, 4), 60);
    is(x.feed(-1L, 1), Due.FULL);
    is(x.feed(-1L, 9), Due.BEYOND);
  }

  private static void text() {
    walk.promise(12, "text", "int text(int use)");
    walk.says("THE TAPE, which is empty then, is the TEXT of a USE (0, 1), in place of one ahead: 1.");
    FrostWills x = new FrostWills();
    Due.write(x, "2+s");
    is(x.text(0), 1);
    is(x.count(7), 0);
    is(x.law(0, 3, 0, 0), 5);
    Due.write(x, "7");
    is(x.text(0), 1);
    is(x.law(0, 3, 0, 0), 7);
    is(x.law(1, 3, 4, 0), 12);
    walk.says("BEYOND (THE TAPE stays).");
    Due.write(x, "8+");
    is(x.text(2), Due.BEYOND);
    is(x.text(-1), Due.BEYOND);
    is(x.count(7), 2);
    walk.says("-10 less the FAULT (no ERROR; the one ahead stays; THE TAPE is empty, too).");
    is(x.text(0), -12);
    is(x.count(7), 0);
    is(x.law(0, 3, 0, 0), 7);
    is(x.told(1), 2);
  }

  private static void untellAndLaw() {
    walk.promise(13, "untell", "int untell(int use)");
    walk.says("There is no TEXT of a USE any more: 1 if there was, else 0.");
    FrostWills x = new FrostWills();
    Due.tell(x, 0, "7");
    Due.tell(x, 1, "8");
    is(x.untell(0), 1);
    is(x.untell(0), 0);
    is(x.law(0, 5, 5, 5), 1);
    is(x.law(1, 5, 5, 5), 8);
    is(x.untell(1), 1);
    is(x.law(1, 5, 5, 5), 25);
    walk.says("BEYOND.");
    is(x.untell(2), Due.BEYOND);
    is(x.untell(-1), Due.BEYOND);
    walk.promise(14, "law", "int law(int use, int a, int b, int c)");
    walk.says("What a USE gives with its NAMES in order as a, b, c (any number).");
    Due.tell(x, 0, "s*4+f*2+k");
    Due.tell(x, 1, "r*100+w*10+h");
    is(x.law(0, 1, 1, 2), 8);
    is(x.law(1, 1, 2, 3), 123);
    is(x.law(1, -1, 12, 0), 20);
    is(x.law(0, 0, 0, LEAST), 1);
    is(x.law(1, 0, 0, MOST), 9999);
    walk.says("BEYOND.");
    is(x.law(2, 0, 0, 0), Due.BEYOND);
    is(x.law(-1, 0, 0, 0), Due.BEYOND);
  }

  private static void round() {
    walk.promise(15, "round", "int round(int sheet)");
    walk.says("What the ROUND of a SHEET (PANES, one behind the other) comes to; it is only thought.");
    FrostWills x = house();
    is(x.round(0), 11 * 5 + 3 * 9);
    is(x.round(1), 4 * 9 + 10 * 5);
    is(x.has(0) + x.has(1) + x.has(-1) + x.count(5), 0);
    walk.says("BEYOND.");
    is(x.round(4), Due.BEYOND);
    is(x.round(-1), Due.BEYOND);
    walk.says("NONE: the SHEET is missing, or no ROUND.");
    is(x.round(2), Due.NONE);
    Due.row(x, 2, 32, 0, 0);
    is(x.round(2), Due.NONE);
    Due.row(x, 2, 32, 1);
    is(x.round(2), Due.NONE);
    Due.row(x, 2, 32, 1, 0, 2);
    is(x.round(2), Due.NONE);
  }

  private static void reading() {
    walk.promise(16, "reading", "int reading(int sheet)");
    walk.says("The ROUND of a SHEET is READ: what it comes to.");
    FrostWills x = house();
    is(x.reading(1), 4 * 9 + 10 * 5);
    is(x.has(0), 10 * 5);
    is(x.has(1), 4 * 9);
    is(x.has(-1), 3 * 5 + 2 * 9);
    is(x.count(5), 1);
    walk.says("BEYOND.");
    is(x.reading(4), Due.BEYOND);
    is(x.reading(-1), Due.BEYOND);
    walk.says("NONE: the SHEET is missing, or no ROUND.");
    is(x.reading(2), Due.NONE);
    Due.row(x, 2, 32, 1, 1);
    is(x.reading(2), Due.NONE);
    is(x.count(5), 1);
    walk.says("STATE: NIGHTS is 9999.");
    x = Twins.late(9998);
    is(x.reading(0), 0);
    is(x.reading(0), Due.STATE);
    is(x.reading(1), Due.NONE);
    is(x.count(5), 9999);
  }

  private static void byDraws() {
    walk.promise(17, "loose", "int loose(int n)");
    walk.says("n (1 .. 30) nights BY DRAWS: what THE CHURCH has.");
    FrostWills x = house();
    // COLD 37: 12 and 6 STROKES.
    is(x.loose(1), 2 * 5 + 3 * 9);
    is(x.has(0), 10 * 5);
    is(x.has(1), 3 * 9);
    is(x.loose(30), x.has(-1));
    is(x.count(5), 31);
    walk.says("BEYOND.");
    is(x.loose(0), Due.BEYOND);
    is(x.loose(31), Due.BEYOND);
    walk.says("STATE: NIGHTS would be above 9999.");
    x = Twins.late(9990);
    is(x.loose(10), Due.STATE);
    is(x.loose(9), 0);
    is(x.loose(1), Due.STATE);
    is(x.count(5), 9999);
    walk.promise(18, "seed", "int seed(int v)");
    walk.says("z becomes v: what it was (any number).");
    x = new FrostWills();
    is(x.seed(Due.NONE), 1);
    is(x.seed(0), Due.NONE);
    is(x.told(2), 0);
    x.loose(1);
    is(x.count(2), (12345 >> 8) % 41);
  }

  private static void left() {
    walk.promise(19, "left", "int left(int pane, int hour)");
    walk.says("What is LEFT of a PANE at an hour (0 .. 23).");
    FrostWills x = house();
    is(x.left(0, 0), 13);
    is(x.left(0, 10), 10);
    is(x.left(1, 12), 1);
    is(x.left(1, 23), 0);
    walk.says("BEYOND.");
    is(x.left(0, 24), Due.BEYOND);
    is(x.left(0, -1), Due.BEYOND);
    is(x.left(2, 0), Due.BEYOND);
  }

  private static void best() {
    walk.promise(20, "best", "int best(int what)");
    walk.says("BEST: what -1 what it comes to, 0 .. 5 the PANE there.");
    FrostWills x = house();
    is(x.best(-1), 86);
    is(x.best(0), 1);
    is(x.best(1), 0);
    walk.says("BEYOND.");
    is(x.best(-2), Due.BEYOND);
    is(x.best(6), Due.BEYOND);
    walk.says("STATE: there are more than 6 PANES.");
    is(Twins.crowd(1, 6).best(5), 5);
    is(Twins.crowd(1, 7).best(5), Due.STATE);
    is(Twins.crowd(1, 7).best(-1), Due.STATE);
    is(Twins.crowd(1, 7).best(6), Due.BEYOND);
    walk.says("NONE: there is no such place.");
    is(x.best(2), Due.NONE);
    is(x.best(5), Due.NONE);
    is(new FrostWills().best(0), Due.NONE);
    is(new FrostWills().best(-1), 0);
  }

  private static void share() {
    walk.promise(21, "share", "int share(int heir)");
    walk.says("SHARE.");
    FrostWills x = house();
    is(x.share(0), 10 * 5);
    is(x.share(1), 4 * 9);
    walk.says("BEYOND.");
    is(x.share(2), Due.BEYOND);
    is(x.share(-1), Due.BEYOND);
    walk.says("STATE: there are more than 6 PANES.");
    is(Twins.crowd(1, 6).share(0), 6 * 15);
    is(Twins.crowd(1, 7).share(0), Due.STATE);
    is(Twins.crowd(1, 7).share(1), Due.BEYOND);
  }

  private static void coldFor() {
    walk.promise(22, "coldFor", "int coldFor(int pane, int s)");
    walk.says("COLD FOR s (0 .. 99) STROKES.");
    FrostWills x = house();
    is(x.coldFor(0, 0), 0);
    is(x.coldFor(0, 13), 40);
    is(x.coldFor(1, 6), 36);
    walk.says("BEYOND.");
    is(x.coldFor(2, 0), Due.BEYOND);
    is(x.coldFor(0, -1), Due.BEYOND);
    is(x.coldFor(0, 100), Due.BEYOND);
    walk.says("NONE: not by 40.");
    is(x.coldFor(0, 14), Due.NONE);
    is(x.coldFor(0, 99), Due.NONE);
  }

  private static void breath() {
    walk.promise(23, "breath", "int breath(int heir, int v, int what)");
    walk.says("BREATH, for v (0 .. 99999): what 0 how many, 1 the set.");
    FrostWills x = house();
    is(x.breath(1, 27, 0), 0);
    is(x.breath(1, 27, 1), 0);
    Due.tell(x, 0, "s");
    is(x.breath(1, 0, 1), 0);
    is(x.breath(1, 27, 0), 1);
    is(x.breath(1, 27, 1), 1);
    walk.says("BEYOND.");
    is(x.breath(2, 0, 0), Due.BEYOND);
    is(x.breath(-1, 0, 0), Due.BEYOND);
    is(x.breath(0, -1, 0), Due.BEYOND);
    is(x.breath(0, 100000, 0), Due.BEYOND);
    is(x.breath(0, 0, 2), Due.BEYOND);
    walk.says("NONE: by no set.");
    is(x.breath(1, 28, 0), Due.NONE);
    is(x.breath(1, 28, 1), Due.NONE);
    is(x.breath(0, 99999, 0), Due.NONE);
  }

  private static void oddsAndFits() {
    walk.promise(24, "odds", "int odds(int pane, int s, int hour, int part)");
    walk.says("ODDS, for s (0 .. 99), an hour (0 .. 23): part 0 above, 1 below the line.");
    FrostWills x = house();
    is(x.odds(0, 12, 8, 0), 1);
    is(x.odds(0, 12, 8, 1), 41);
    is(x.odds(0, 99, 0, 1), 1);
    is(x.odds(0, 1, 23, 0), 0);
    walk.says("BEYOND.");
    is(x.odds(2, 0, 0, 0), Due.BEYOND);
    is(x.odds(0, 100, 0, 0), Due.BEYOND);
    is(x.odds(0, -1, 0, 0), Due.BEYOND);
    is(x.odds(0, 0, 24, 0), Due.BEYOND);
    is(x.odds(0, 0, -1, 0), Due.BEYOND);
    is(x.odds(0, 0, 0, 2), Due.BEYOND);
    walk.promise(25, "fits", "int fits(int sheet, int hour, int what)");
    walk.says("FITS, by a SHEET, for an hour (0 .. 23): what 0 how many, 1 the least.");
    Due.row(x, 2, 32, 11, 4);
    is(x.fits(2, 9, 0), 1);
    is(x.fits(2, 9, 1), 40);
    Due.row(x, 2, 32, 9);
    is(x.fits(2, 0, 0), 4);
    is(x.fits(2, 0, 1), 24);
    walk.says("BEYOND.");
    is(x.fits(4, 0, 0), Due.BEYOND);
    is(x.fits(-1, 0, 0), Due.BEYOND);
    is(x.fits(2, 24, 0), Due.BEYOND);
    is(x.fits(2, 0, 2), Due.BEYOND);
    is(x.fits(3, 0, -1), Due.BEYOND);
    walk.says("NONE: the SHEET is missing; (what 1) there is none.");
    is(x.fits(3, 0, 0), Due.NONE);
    is(x.fits(2, 23, 1), Due.NONE);
    is(x.fits(2, 23, 0), 0);
  }

  private static void voices() {
    walk.promise(26, "voice", "int voice(int pane, int voice, int x)");
    walk.says("A VOICE of a PANE: any number.");
    FrostWills x = house();
    is(x.voice(0, 0, Due.STATE), Due.STATE);
    is(x.voice(1, 0, 7), 7 + 1 - 4);
    is(x.voice(1, 1, 7), 8);
    is(x.voice(1, 2, 7), 3);
    is(x.voice(1, 3, 9), 2 + (2 - 4) * 2);
    is(x.told(3), 0);
    walk.says("BEYOND.");
    is(x.voice(2, 0, 7), Due.BEYOND);
    is(x.voice(-1, 0, 7), Due.BEYOND);
    is(x.voice(0, 4, 7), Due.BEYOND);
    is(x.voice(0, -1, 7), Due.BEYOND);
    walk.says("PARTED.");
    is(x.voice(0, 3, 7), Due.PARTED);
    x.become(1, 41);
    is(x.voice(1, 3, 7), Due.PARTED);
    is(x.told(6), 2);
    walk.promise(27, "body", "int body(int i)");
    walk.says("THE TRACE's i-th.");
    is(x.body(0), 21);
    is(x.body(1), 13);
    walk.says("NONE: there is none such.");
    is(x.body(2), Due.NONE);
    is(x.body(-1), Due.NONE);
    is(x.body(30), Due.NONE);
  }

  private static void sheet() {
    walk.promise(28, "sheet", "int sheet(int sheet, int bits, int n)");
    walk.says("A SHEET has n numbers, all 0, of so many bits (8, 16, 32; 0: it is missing, n doesn't"
        + " matter): 1.");
    FrostWills x = Twins.crowd(1, 8);
    for (int bits = 8; bits <= 32; bits *= 2) {
      Due.row(x, 2, 8, 7, 7, 7);
      is(x.sheet(2, bits, 2), 1);
      is(x.worths(2), 2);
      is(x.paneIs(0, 6) + x.paneIs(1, 6), 0);
      is(x.put(2, 0, 65536 + 256), 1);
      is(x.worths(2), bits == 8 ? 2 : 0);
      is(x.put(2, 0, 65536), 1);
      is(x.worths(2), bits == 32 ? 0 : 2);
    }
    is(x.sheet(2, 0, -7), 1);
    is(x.worths(2), Due.NONE);
    is(x.sheet(2, 0, 77), 1);
    walk.says("BEYOND.");
    is(x.sheet(4, 8, 1), Due.BEYOND);
    is(x.sheet(-1, 0, 1), Due.BEYOND);
    is(x.sheet(2, 9, 1), Due.BEYOND);
    is(x.sheet(2, 8, 25), Due.BEYOND);
    walk.says("STATE: n is below 0 (ahead of BEYOND of n).");
    is(x.sheet(2, 8, -1), Due.STATE);
    is(x.sheet(2, 32, LEAST), Due.STATE);
    is(x.sheet(4, 8, -1), Due.BEYOND);
    is(x.sheet(2, 9, -1), Due.BEYOND);
    is(x.worths(2), Due.NONE);
  }

  private static void put() {
    walk.promise(29, "put", "int put(int sheet, int i, int v)");
    walk.says("Number i of a SHEET becomes v (its lowest bits): 1.");
    FrostWills x = Twins.crowd(1, 2);
    x.sheet(1, 8, 2);
    is(x.put(1, 1, 1024 + 77), 1);
    is(x.put(1, 0, 5), 1);
    is(x.worths(1), 2);
    is(x.paneIs(0, 6) * 100 + x.paneIs(1, 6), 577);
    walk.says("BEYOND: no such SHEET.");
    is(x.put(4, 0, 0), Due.BEYOND);
    is(x.put(-1, 9, 0), Due.BEYOND);
    walk.says("NONE: it is missing.");
    is(x.put(2, 0, 0), Due.NONE);
    is(x.put(2, -1, 0), Due.NONE);
    walk.says("BEYOND: no such number.");
    is(x.put(1, 2, 0), Due.BEYOND);
    is(x.put(1, -1, 0), Due.BEYOND);
  }

  private static void move() {
    walk.promise(30, "move", "int move(int sheet, int i, int other, int j, int n)");
    walk.says("n numbers of a SHEET, from number i on, come to another one (or the same), from its number j"
        + " on, as they all were: n.");
    FrostWills x = Twins.crowd(1, 4);
    Due.row(x, 0, 8, 1, 2, 3, 4);
    Due.row(x, 1, 8, 5, 6, 7);
    is(x.move(0, 0, 0, 1, 3), 3);
    worthsAre(x, 0, 1, 1, 2, 3);
    is(x.move(0, 1, 0, 0, 3), 3);
    worthsAre(x, 0, 1, 2, 3, 3);
    is(x.move(1, 1, 0, 2, 2), 2);
    worthsAre(x, 0, 1, 2, 6, 7);
    is(x.move(0, 0, 1, 0, 0), 0);
    worthsAre(x, 1, 5, 6, 7);
    walk.says("BEYOND: no such SHEET.");
    is(x.move(4, 0, 0, 0, 1), Due.BEYOND);
    is(x.move(2, 0, 4, 0, 1), Due.BEYOND);
    walk.says("NONE: one is missing.");
    is(x.move(2, 0, 0, 0, 1), Due.NONE);
    is(x.move(0, 0, 2, 0, -1), Due.NONE);
    walk.says("KIND: they are of unlike bits.");
    x.sheet(2, 16, 4);
    is(x.move(2, 0, 0, 0, 1), Due.KIND);
    is(x.move(0, 0, 2, 0, -1), Due.KIND);
    walk.says("BEYOND: n, i, or j is below 0, or they don't stand there.");
    is(x.move(0, 0, 1, 0, -1), Due.BEYOND);
    is(x.move(0, -1, 1, 0, 1), Due.BEYOND);
    is(x.move(0, 0, 1, -1, 1), Due.BEYOND);
    is(x.move(0, 3, 1, 0, 2), Due.BEYOND);
    is(x.move(0, 0, 1, 2, 2), Due.BEYOND);
    is(x.move(0, MOST, 1, 0, MOST), Due.BEYOND);
    worthsAre(x, 1, 5, 6, 7);
  }

  private static void worthsAre(FrostWills x, int sheet, int... want) {
    is(x.worths(sheet), want.length);
    for (int i = 0; i < want.length; i++) {
      is(x.paneIs(i, 6), want[i]);
    }
  }

  private static void worths() {
    walk.promise(31, "worths", "int worths(int sheet)");
    walk.says("Numbers of a SHEET become WORTH of PANES 0, 1, ..: how many, up to the first that is not 0"
        + " to 99 (no ERROR then), or for which there is no PANE.");
    FrostWills x = Twins.crowd(1, 3);
    Due.row(x, 1, 32, 99, 100, 7);
    is(x.worths(1), 1);
    is(x.paneIs(0, 6) * 10000 + x.paneIs(1, 6) * 100 + x.paneIs(2, 6), 990102);
    Due.row(x, 1, 32, 0, 8, -1);
    is(x.worths(1), 2);
    is(x.paneIs(0, 6) * 10000 + x.paneIs(1, 6) * 100 + x.paneIs(2, 6), 802);
    Due.row(x, 1, 8, 4, 5, 6, 7);
    is(x.worths(1), 3);
    is(x.told(1) + x.told(2), 0);
    walk.says("BEYOND: no such SHEET.");
    is(x.worths(4), Due.BEYOND);
    is(x.worths(-1), Due.BEYOND);
    walk.says("NONE: it is missing.");
    is(x.worths(2), Due.NONE);
  }

  private static void judge() {
    walk.promise(32, "judge", "int judge(int sheet)");
    walk.says("Numbers of a SHEET are what is LEFT of PANES 0, 1, .. at HOUR: how many are right, from the"
        + " first on.");
    FrostWills x = house();
    Due.row(x, 2, 8, 11, 4, 0);
    is(x.judge(2), 2);
    x.put(2, 0, 10);
    is(x.judge(2), 0);
    x.set(1, 10);
    is(x.judge(2), 1);
    walk.says("BEYOND: no such SHEET.");
    is(x.judge(4), Due.BEYOND);
    is(x.judge(-1), Due.BEYOND);
    walk.says("NONE: it is missing.");
    is(x.judge(3), Due.NONE);
  }

  private static void images() {
    walk.promise(33, "image", "int image()");
    walk.says("All (but SHEETS, THE TRACE, what told() tells, and how often this was done) is kept as an"
        + " IMAGE, in place of one ahead: how often that was done.");
    FrostWills x = house();
    is(x.restore(), Due.NONE);
    is(x.image(), 1);
    x.reading(0);
    Due.tell(x, 0, "5");
    Due.write(x, "r+w");
    x.tell(x.has(0));
    x.seed(4);
    is(x.image(), 2);
    x.heir();
    x.pane(0, 0, 0, 0, 0);
    x.become(0, 66);
    x.loose(3);
    x.set(1, 1);
    x.untell(0);
    x.text(1);
    x.check();
    x.voice(1, 0, 0);
    Due.row(x, 3, 8, 0, 1);
    is(x.heir() + x.heir() + x.heir(), 12);
    is(x.heir(), Due.FULL);
    walk.promise(34, "restore", "int restore()");
    walk.says("All is as the IMAGE has it, which stays: NIGHTS.");
    for (int i = 0; i < 2; i++) {
      is(x.restore(), 1);
      int[] counts = {2, 2, 40, 9, 0, 1, 37, 3, 1, 2, 4};
      for (int what = 0; what < counts.length; what++) {
        is(x.count(what), counts[what]);
      }
      is(x.has(0), 55);
      is(x.paneIs(0, 0), 0);
      is(x.law(0, 0, 0, 0), 5);
      is(x.law(1, 2, 3, 0), 6);
      is(x.check(), 0);
      is(x.text(1), 1);
      is(x.law(1, 2, 3, 0), 5);
      is(x.body(0), 20);
      is(x.told(4), 1);
      is(x.judge(3), 0);
      is(x.loose(1) > 37 ? 1 : 0, 1);
    }
    is(x.image(), 3);
    walk.says("NONE: there is none.");
    is(new FrostWills().restore(), Due.NONE);
  }

  private static void waiting() {
    walk.promise(35, "tell", "int tell(int v)");
    walk.says("One more number waits: how many.");
    FrostWills x = house();
    for (int i = 1; i <= 24; i++) {
      is(x.tell(0), i);
    }
    walk.says("FULL: 24 wait.");
    is(x.tell(0), Due.FULL);
    is(x.count(8), 24);
    walk.promise(36, "check", "int check()");
    walk.says("The numbers that wait (none do then) are what HEIRS 0, 1, .. have: 0; else 1 and the place"
        + " (from 0) of the first that isn't so (or for which there is no HEIR).");
    is(x.check(), 1 + 2);
    is(x.count(8), 0);
    is(x.check(), 0);
    x.reading(0);
    x.tell(55);
    is(x.check(), 0);
    x.tell(55);
    x.tell(27);
    is(x.check(), 0);
    x.tell(55);
    x.tell(26);
    x.tell(0);
    is(x.check(), 1 + 1);
    x.tell(27);
    is(x.check(), 1);
    is(x.count(8), 0);
  }

  private static void counted() {
    walk.promise(37, "count", "int count(int what)");
    walk.says("0 PANES, 1 HEIRS, 2 COLD, 3 HOUR, 4 LAMP, 5 NIGHTS, 6 what THE CHURCH has, 7 bytes of THE"
        + " TAPE, 8 numbers that wait, 9 BODIES in THE TRACE, 10 z (any number).");
    FrostWills x = house();
    x.heir();
    x.set(2, 1);
    x.reading(0);
    Due.write(x, "12345");
    x.tell(9);
    x.voice(1, 1, 0);
    x.seed(Due.FULL);
    int[] counts = {2, 3, 40, 9, 1, 1, 37, 5, 1, 3, Due.FULL};
    for (int what = 0; what < counts.length; what++) {
      is(x.count(what), counts[what]);
    }
    walk.says("BEYOND.");
    is(x.count(11), Due.BEYOND);
    is(x.count(-1), Due.BEYOND);
    walk.promise(38, "told", "int told(int k)");
    walk.says("How many acts have answered an ERROR LOW - k (k 1 .. 6); BEYOND: another k (counted, too).");
    is(x.told(1), 2);
    is(x.told(4), 0);
    is(x.told(0), Due.BEYOND);
    is(x.told(7), Due.BEYOND);
    is(x.told(1), 4);
    x.body(9);
    x.best(5);
    is(x.told(2), 2);
    x.sheet(0, 8, -1);
    is(x.told(3), 1);
    x.as(0, 3);
    is(x.told(5), 1);
    x.voice(0, 3, 0);
    is(x.told(6), 1);
    is(x.heir() + x.heir() + x.heir(), 12);
    x.heir();
    is(x.told(4), 1);
  }

  private static void notPromised() {
    walk.noCall("## Not promised How the state is held inside the object is free, as are the speed of each"
        + " call, the text of toString and the behaviour of equals and hashCode.");
    walk.noCall("Use of one object from several threads at once is not promised to be safe.");
    walk.noCall("Nothing is promised beyond the answers and state changes described above, and nothing about"
        + " an object after its 512th call.");
  }
}
