/** Terms, 3, and promises 19 to 25: the edges of what is only thought. */
public final class ThoughtEdgesTest {
  public static void main(String[] args) {
    bestOfFew();
    bestOfSeveral();
    bestBeyondTheDay();
    bestByTexts();
    bestNow();
    shares();
    byEachCold();
    coldForEdges();
    breathExact();
    breathOfAll();
    breathTies();
    breathOfTheRoundAlone();
    breathTakesTime();
    oddsEdges();
    fitsFew();
    fitsMany();
    fitsEdges();
    leftNow();
    Due.end("ThoughtEdgesTest");
  }

  private static void due(String call, long got, long want) {
    Due.due(call, got, want);
  }

  private static FrostWills at(int hour, int cold, int heirs) {
    FrostWills x = Due.withHeirs(heirs);
    x.set(0, cold);
    x.set(1, hour);
    return x;
  }

  private static void bestIs(FrostWills x, int sum, int... order) {
    due("best", x.best(-1), sum);
    for (int i = 0; i < 6; i++) {
      due("best at " + i, x.best(i), i < order.length ? order[i] : Due.NONE);
    }
  }

  /** No PANES: it comes to 0, and has no place; one PANE, two, and all 6. */
  private static void bestOfFew() {
    FrostWills x = at(7, 12, 2);
    bestIs(x, 0);
    due("share", x.share(0), 0);
    x.pane(0, 19, 0, 0, 1);
    bestIs(x, 6, 0);
    x.pane(0, 19, 0, 1, 2);
    bestIs(x, 12 + 5, 1, 0);
    x.pane(0, 19, 0, 0, 3);
    x.pane(0, 19, 0, 0, 4);
    x.pane(0, 19, 0, 0, 5);
    x.pane(0, 19, 0, 0, 6);
    bestIs(x, 36 + 25 + 16 + 9 + 4 + 1, 5, 4, 3, 2, 1, 0);
    due("share 0", x.share(0), 36 + 25 + 16 + 9 + 1);
    due("share 1", x.share(1), 4);
  }

  /** Of several that come to most the first by numbers. */
  private static void bestOfSeveral() {
    FrostWills x = at(7, 12, 1);
    x.pane(0, 9, 0, 0, 1);
    x.pane(0, 9, 0, 0, 9);
    x.pane(0, 19, 0, 0, 1);
    bestIs(x, 6 + 54 + 6, 2, 0, 1);
    x.become(2, 5);
    bestIs(x, 6 + 54 + 6, 2, 0, 1);
    x.set(1, 5);
    bestIs(x, 66, 0, 1, 2);
    x.set(1, 6);
    bestIs(x, 66, 0, 2, 1);
    x.set(1, 23);
    bestIs(x, 60, 0, 1, 2);
    x.pane(0, 9, 0, 0, 0);
    x.pane(0, 9, 0, 0, 0);
    x.pane(0, 9, 0, 0, 0);
    bestIs(x, 60, 0, 1, 2, 3, 4, 5);
    x.set(1, 7);
    bestIs(x, 66, 2, 0, 1, 3, 4, 5);
    Due.tell(x, 1, "0");
    bestIs(x, 0, 0, 1, 2, 3, 4, 5);
    Due.tell(x, 1, "9999");
    bestIs(x, 59994, 0, 1, 2, 3, 4, 5);
  }

  /** The sun goes on beyond 23. */
  private static void bestBeyondTheDay() {
    FrostWills x = at(23, 40, 1);
    x.pane(0, 39, 0, 0, 1);
    x.pane(0, 39, 0, 0, 2);
    x.pane(0, 39, 0, 0, 3);
    bestIs(x, 3 * 5 + 2 * 4 + 3, 2, 1, 0);
    Due.tell(x, 0, "4");
    bestIs(x, 3 * 5 + 2, 2, 1, 0);
    Due.tell(x, 0, "5");
    bestIs(x, 3 * 5, 2, 0, 1);
  }

  /** Who takes long comes last, who has less by more READ comes late. */
  private static void bestByTexts() {
    FrostWills x = at(7, 12, 1);
    x.pane(0, 9, 9, 0, 1);
    x.pane(0, 19, 0, 0, 1);
    x.pane(0, 19, 1, 0, 1);
    Due.tell(x, 0, "f");
    bestIs(x, 6 + 5 + 6, 1, 2, 0);
    Due.tell(x, 1, "6-r");
    bestIs(x, 0 + 6 + 6, 0, 1, 2);
    // Of 13 STROKES 7 are READ at 13, which takes 2: then 8 of the other one are left at 15.
    x = at(13, 40, 1);
    x.pane(0, 19, 0, 0, 1);
    x.pane(0, 29, 0, 0, 1);
    Due.tell(x, 0, "s-5");
    bestIs(x, 7 + 8, 0, 1);
  }

  /** What was thought of ahead is not what is now. */
  private static void bestNow() {
    FrostWills x = at(7, 12, 2);
    x.pane(0, 19, 0, 0, 1);
    x.pane(0, 19, 0, 1, 2);
    bestIs(x, 17, 1, 0);
    x.set(1, 9);
    bestIs(x, 8 + 3, 1, 0);
    Due.row(x, 0, 8, 9, 1);
    x.worths(0);
    bestIs(x, 36 + 3, 0, 1);
    due("share 0", x.share(0), 36);
    x.names(0, 1);
    due("share 0", x.share(0), 0);
    due("share 1", x.share(1), 39);
    x.wipe(0, 0);
    bestIs(x, 9 + 3, 0, 1);
    x.set(0, 40);
    bestIs(x, 8 * 9 + 10, 0, 1);
  }

  /** All SHARES together are what the BEST ROUND comes to. */
  private static void shares() {
    FrostWills x = at(8, 30, 6);
    for (int i = 0; i < 6; i++) {
      x.pane(10 * i + i, 10 * (i % 4) + 9, i, i % 5, 10 + i * i);
    }
    Due.tell(x, 0, "s%3+f");
    int sum = 0;
    for (int heir = 0; heir < 6; heir++) {
      sum += x.share(heir);
    }
    due("shares", sum, x.best(-1));
    due("of nothing", x.share(5), 0);
    due("no such heir", x.share(6), Due.BEYOND);
  }

  /** COLD FOR, ODDS and FITS by what paneIs() and left() tell by each COLD. */
  private static void byEachCold() {
    for (int km = 0; km <= 69; km++) {
      for (int lamp = 0; lamp <= 1; lamp++) {
        byEachCold(km, km * 7 % 40, lamp, 6 + km % 14);
      }
    }
  }

  private static void byEachCold(int km, int fc, int lamp, int hour) {
    FrostWills x = at(6, 12, 1);
    x.set(2, lamp);
    x.pane(km, fc, 0, 0, 1);
    int[] strokes = new int[41];
    int[] left = new int[41];
    for (int cold = 0; cold <= 40; cold++) {
      x.set(0, cold);
      strokes[cold] = x.paneIs(0, 7);
      left[cold] = x.left(0, hour);
    }
    x.sheet(0, 8, 1);
    for (int s = 0; s <= 15; s++) {
      int least = Due.NONE;
      int so = 0;
      int good = 0;
      int first = Due.NONE;
      for (int cold = 40; cold >= 0; cold--) {
        least = strokes[cold] >= s ? cold : least;
        good += left[cold] >= s ? 1 : 0;
        so += left[cold] == s ? 1 : 0;
        first = left[cold] == s ? cold : first;
      }
      String call = s + " of " + km + ", " + fc + ", lamp " + lamp + ", at " + hour;
      due("cold for " + call, x.coldFor(0, s), least);
      due("odds of " + call, x.odds(0, s, hour, 0), good == 41 ? 1 : good);
      due("odds below of " + call, x.odds(0, s, hour, 1), good == 41 || good == 0 ? 1 : 41);
      x.put(0, 0, s);
      due("fits " + call, x.fits(0, hour, 0), so);
      due("fits least " + call, x.fits(0, hour, 1), first);
    }
  }

  private static void coldForEdges() {
    FrostWills x = at(6, 12, 1);
    x.pane(0, 0, 0, 0, 1);
    due("by 0", x.coldFor(0, 0), 0);
    due("by 4", x.coldFor(0, 1), 4);
    due("by 36", x.coldFor(0, 9), 36);
    due("by 40", x.coldFor(0, 10), 40);
    due("not by 40", x.coldFor(0, 11), Due.NONE);
    x.wipe(0, 3);
    due("by 0", x.coldFor(0, 1), 0);
    due("by 40", x.coldFor(0, 11), 40);
    x.set(0, 40);
    x.set(1, 23);
    x.become(0, 60);
    due("by 2 already, not by 3", x.coldFor(0, 3), 2);
    due("the cold stays", x.count(2), 40);
  }

  /** v just so, and v one more; v 0 by no PANE at all. HEIR 0: 12, HEIR 1: 18. */
  private static void breathExact() {
    FrostWills x = at(6, 12, 3);
    x.pane(0, 9, 0, 0, 2);
    x.pane(0, 9, 0, 1, 3);
    due("12", x.breath(0, 12, 0), 0);
    due("12", x.breath(0, 12, 1), 0);
    due("13", x.breath(0, 13, 0), Due.NONE);
    due("18", x.breath(1, 18, 0), 0);
    due("19", x.breath(1, 19, 0), Due.NONE);
    due("0 of nothing", x.breath(2, 0, 0), 0);
    due("0 of nothing", x.breath(2, 0, 1), 0);
    due("1 of nothing", x.breath(2, 1, 0), Due.NONE);
    Due.tell(x, 1, "(h=0)*9999");
    due("9999", x.breath(0, 9999, 1), 0);
    due("10000", x.breath(0, 10000, 1), Due.NONE);
  }

  /** All 8: 9999 of each that is breathed on. */
  private static void breathOfAll() {
    FrostWills x = at(6, 12, 1);
    for (int i = 0; i < 8; i++) {
      x.pane(0, 9, 0, 0, 1);
    }
    Due.tell(x, 1, "(r=0)*9999");
    for (int n = 0; n <= 8; n++) {
      due(n + " panes", x.breath(0, n * 9999, 0), n);
      due(n + " panes", x.breath(0, n * 9999, 1), (1 << n) - 1);
    }
    due("one more", x.breath(0, 8 * 9999 + 1, 0), Due.NONE);
    due("the most", x.breath(0, 99999, 1), Due.NONE);
    Due.tell(x, 1, "(r=0)*w");
    Due.row(x, 0, 8, 1, 1, 1, 1, 1, 1, 1, 9);
    x.worths(0);
    due("the last alone", x.breath(0, 9, 1), 128);
    due("the first and the last", x.breath(0, 10, 1), 129);
    due("all", x.breath(0, 16, 1), 255);
  }

  /** The fewest PANES ahead of the least bits; of as many the least bits. */
  private static void breathTies() {
    FrostWills x = at(6, 12, 1);
    int[] worth = {1, 1, 2, 3, 3};
    for (int w : worth) {
      x.pane(0, 9, 0, 0, w);
    }
    Due.tell(x, 1, "(r=0)*w");
    int[] many = {0, 1, 1, 1, 2, 2, 2, 3, 3, 4, 5};
    int[] set = {0, 1, 4, 8, 9, 12, 24, 25, 28, 29, 31};
    for (int v = 0; v <= 10; v++) {
      due("how many for " + v, x.breath(0, v, 0), many[v]);
      due("the set for " + v, x.breath(0, v, 1), set[v]);
    }
    due("no set", x.breath(0, 11, 0), Due.NONE);
  }

  /** What an HEIR HAS already does not count, nor is it held. */
  private static void breathOfTheRoundAlone() {
    FrostWills x = at(6, 12, 1);
    x.pane(0, 9, 0, 0, 2);
    Due.row(x, 0, 8, 0);
    due("reading", x.reading(0), 12);
    due("12", x.breath(0, 12, 0), 0);
    due("13", x.breath(0, 13, 0), Due.NONE);
    due("24", x.breath(0, 24, 0), Due.NONE);
    for (int i = 1; i < 8; i++) {
      x.pane(0, 9, 0, 0, 2);
    }
    Due.tell(x, 1, "9999");
    Due.row(x, 0, 8, 0, 1, 2, 3, 4, 5, 6, 7);
    x.reading(0);
    x.reading(0);
    due("has the most", x.has(0), 99999);
    due("79992", x.breath(0, 79992, 0), 0);
    due("79993", x.breath(0, 79993, 0), Due.NONE);
  }

  /** Nothing is left of what is breathed on at any hour, to the north too; it takes as nothing does. */
  private static void breathTakesTime() {
    FrostWills x = at(7, 12, 2);
    x.pane(0, 9, 0, 0, 1);
    x.pane(0, 19, 0, 1, 1);
    Due.tell(x, 0, "s");
    due("nothing left at 13", x.breath(1, 0, 1), 0);
    due("5 at 8", x.breath(1, 1, 1), 1);
    due("5 at 8", x.breath(1, 5, 1), 1);
    due("no more", x.breath(1, 6, 1), Due.NONE);
    due("heir 0 has 6 by himself", x.breath(0, 6, 1), 0);
    Due.tell(x, 0, "9*(s=0)");
    due("6 less 1 at 8", x.breath(1, 5, 1), 0);
    due("no more", x.breath(1, 6, 1), Due.NONE);
  }

  private static void oddsEdges() {
    FrostWills x = at(6, 12, 1);
    x.pane(0, 10, 0, 0, 1);
    int[][] rows = {
      {0, 0, 1, 1}, {1, 7, 37, 41}, {10, 7, 1, 41}, {11, 7, 0, 1}, {99, 7, 0, 1}, {9, 8, 1, 41},
      {10, 8, 0, 1}, {0, 23, 1, 1}, {1, 23, 0, 1}, {1, 16, 1, 41}, {1, 17, 0, 1}, {5, 0, 21, 41}
    };
    for (int[] r : rows) {
      due("odds of " + r[0] + " at " + r[1], x.odds(0, r[0], r[1], 0), r[2]);
      due("odds of " + r[0] + " at " + r[1] + ", below", x.odds(0, r[0], r[1], 1), r[3]);
    }
    x.wipe(0, 9);
    due("3 for sure", x.odds(0, 3, 7, 0), 1);
    due("3 for sure", x.odds(0, 3, 7, 1), 1);
    due("4 by 37", x.odds(0, 4, 7, 0), 37);
    due("the cold stays", x.count(2), 12);
  }

  /** A SHEET of no numbers fits by all COLDS; there may be PANES of which it tells nothing. */
  private static void fitsFew() {
    FrostWills x = at(6, 12, 1);
    x.sheet(0, 8, 0);
    due("no panes, no numbers", x.fits(0, 0, 0), 41);
    due("no panes, no numbers", x.fits(0, 23, 1), 0);
    Due.row(x, 1, 8, 0);
    due("no panes, a number", x.fits(1, 0, 0), 0);
    due("no panes, a number", x.fits(1, 0, 1), Due.NONE);
    x.pane(0, 0, 0, 0, 1);
    x.pane(0, 9, 0, 0, 1);
    due("two panes, no numbers", x.fits(0, 0, 0), 41);
    due("two panes, no numbers", x.fits(0, 0, 1), 0);
    due("two panes, a number", x.fits(1, 0, 0), 4);
    due("two panes, a number", x.fits(1, 0, 1), 0);
  }

  /** All 8 PANES; the first, the last is not so; a ninth number, and 24. */
  private static void fitsMany() {
    FrostWills x = at(6, 12, 1);
    for (int i = 0; i < 8; i++) {
      x.pane(0, i, 0, 0, 1);
    }
    Due.row(x, 0, 8, 2, 2, 2, 3, 3, 3, 4, 4);
    due("all", x.fits(0, 6, 0), 4);
    due("all", x.fits(0, 6, 1), 8);
    x.put(0, 7, 5);
    due("but the last", x.fits(0, 6, 0), 0);
    due("but the last", x.fits(0, 6, 1), Due.NONE);
    x.put(0, 7, 4);
    x.put(0, 0, 1);
    due("but the first", x.fits(0, 6, 0), 0);
    Due.row(x, 0, 8, 2, 2, 2, 3, 3, 3, 4, 4, 0);
    due("a ninth number", x.fits(0, 6, 0), 0);
    due("a ninth number", x.fits(0, 6, 1), Due.NONE);
    x.sheet(1, 8, 24);
    due("24 numbers", x.fits(1, 6, 0), 0);
    due("24 numbers", x.fits(1, 6, 1), Due.NONE);
  }

  /** By COLD 0, by COLD 40, by some between; at 0 and at 23; numbers that nothing is. */
  private static void fitsEdges() {
    FrostWills x = at(6, 12, 1);
    x.pane(0, 0, 0, 0, 1);
    x.pane(60, 10, 0, 0, 1);
    Due.row(x, 0, 32, 10);
    due("by 40", x.fits(0, 0, 0), 1);
    due("by 40", x.fits(0, 0, 1), 40);
    x.put(0, 0, 0);
    due("by 0 to 3", x.fits(0, 23, 0), 4);
    due("by 0", x.fits(0, 23, 1), 0);
    for (int v : new int[] {11, -1, 99, 256, 65536, Integer.MIN_VALUE, Integer.MAX_VALUE}) {
      x.put(0, 0, v);
      due("nothing is " + v, x.fits(0, 0, 0), 0);
      due("nothing is " + v, x.fits(0, 0, 1), Due.NONE);
    }
    Due.row(x, 0, 16, 10, 11);
    due("by 40, as it was at 7", x.fits(0, 7, 1), 40);
    due("not so at 8", x.fits(0, 8, 0), 0);
    x.put(0, 1, 10);
    due("so at 8", x.fits(0, 8, 1), 40);
    x.put(0, 1, 256 + 10);
    due("16 bits", x.fits(0, 8, 0), 0);
    Due.row(x, 0, 8, 256 + 10, 256 + 10);
    due("8 bits", x.fits(0, 8, 0), 1);
  }

  /** Promise 19 goes by COLD and LAMP as they are, not by HOUR. */
  private static void leftNow() {
    FrostWills x = at(23, 12, 1);
    x.pane(50, 19, 0, 0, 1);
    due("at 0", x.left(0, 0), 6);
    due("at 8", x.left(0, 8), 4);
    x.set(1, 0);
    due("at 8, by another HOUR", x.left(0, 8), 4);
    due("at 23", x.left(0, 23), 0);
    x.set(0, 40);
    due("by another COLD", x.left(0, 8), 11);
    x.set(2, 1);
    due("by the LAMP", x.left(0, 0), 0);
    x.become(0, 0);
    due("of another KIND", x.left(0, 0), 13);
    x.wipe(0, 0);
    due("less CLEAN", x.left(0, 0), 10);
  }
}
