/** Promises 19 to 25: what would be. */
public final class ThoughtTest {
  private static void due(String call, long got, long want) {
    Due.due(call, got, want);
  }

  public static void main(String[] args) {
    left();
    leftByKinds();
    best();
    bestErrors();
    share();
    coldFor();
    breath();
    breathByTime();
    odds();
    fits();
    Due.end("ThoughtTest");
  }

  private static void leftAt(int km, int fc, int cold, int hour, int want) {
    FrostWills x = Due.withHeirs(1);
    x.pane(km, fc, 0, 0, 1);
    x.set(0, cold);
    due("left of " + km + " facing " + fc + " by " + cold + " at " + hour, x.left(0, hour), want);
  }

  private static void left() {
    FrostWills x = Due.withHeirs(1);
    due("no pane", x.left(0, 6), Due.BEYOND);
    x.pane(0, 9, 0, 0, 1);
    due("hour 24", x.left(0, 24), Due.BEYOND);
    due("hour -1", x.left(0, -1), Due.BEYOND);
    due("pane 1", x.left(1, 0), Due.BEYOND);
    due("pane -1", x.left(-1, 0), Due.BEYOND);
    due("told", x.told(1), 5);
    due("hour 0", x.left(0, 0), 6);
    due("hour 23", x.left(0, 23), 6);
  }

  private static void leftByKinds() {
    leftAt(7, 8, 39, 23, 11);
    leftAt(7, 18, 39, 6, 11);
    leftAt(7, 18, 39, 7, 11);
    leftAt(7, 18, 39, 8, 9);
    leftAt(7, 18, 39, 12, 1);
    leftAt(7, 18, 39, 13, 0);
    leftAt(7, 28, 39, 10, 11);
    leftAt(7, 28, 39, 11, 9);
    leftAt(7, 38, 39, 15, 11);
    leftAt(7, 38, 39, 16, 9);
    leftAt(4, 18, 39, 8, 10);
    leftAt(17, 18, 39, 9, 3);
    leftAt(14, 18, 39, 23, 5);
    leftAt(27, 18, 39, 8, 0);
    leftAt(20, 18, 39, 9, 7);
    leftAt(39, 18, 39, 8, 1);
    leftAt(47, 18, 39, 8, 3);
    leftAt(47, 18, 38, 8, 4);
    leftAt(44, 18, 38, 23, 5);
    leftAt(50, 18, 39, 9, 7);
    leftAt(63, 18, 39, 8, 7);
    leftAt(63, 18, 39, 9, 3);
    leftAt(67, 18, 39, 8, 2);
  }

  private static void best() {
    FrostWills x = Due.withHeirs(2);
    x.set(1, 7);
    x.pane(0, 9, 0, 0, 10);
    due("one", x.best(-1), 60);
    x.pane(0, 19, 0, 1, 1);
    x.pane(5, 19, 0, 1, 1);
    due("best", x.best(-1), 71);
    due("first", x.best(0), 2);
    due("second", x.best(1), 1);
    due("third", x.best(2), 0);
    due("no fourth", x.best(3), Due.NONE);
    due("no sixth", x.best(5), Due.NONE);
    due("share 0", x.share(0), 60);
    due("share 1", x.share(1), 11);
    Due.tell(x, 1, "7");
    due("all the same", x.best(-1), 21);
    due("by numbers", x.best(0), 0);
    due("by numbers", x.best(1), 1);
    due("by numbers", x.best(2), 2);
    x.untell(1);
    due("best again", x.best(0), 2);
    Due.tell(x, 1, "0");
    due("nothing at all", x.best(-1), 0);
    due("by numbers, too", x.best(0), 0);
    due("by numbers, too", x.best(2), 2);
    Due.tell(x, 0, "f*9");
    due("only thought", x.count(5) + x.has(0) + x.has(1) + x.has(-1), 0);
    x.pane(0, 9, 9, 0, 0);
    x.untell(1);
    due("the slow one last", x.best(-1), 71);
    due("first", x.best(0), 2);
    due("fourth", x.best(3), 3);
  }

  private static void bestErrors() {
    FrostWills x = Due.withHeirs(1);
    due("no panes", x.best(-1), 0);
    due("no place", x.best(0), Due.NONE);
    for (int i = 0; i < 6; i++) {
      x.pane(0, 19, 0, 0, i);
    }
    x.set(1, 7);
    due("six", x.best(-1), 6 * 5 + 5 * 4 + 4 * 3 + 3 * 2 + 2);
    due("sixth", x.best(5), 0);
    due("first", x.best(0), 5);
    due("share of six", x.share(0), 6 * 5 + 5 * 4 + 4 * 3 + 3 * 2 + 2);
    due("what 6", x.best(6), Due.BEYOND);
    due("what -2", x.best(-2), Due.BEYOND);
    x.pane(0, 0, 0, 0, 0);
    due("seven", x.best(-1), Due.STATE);
    due("seven", x.best(5), Due.STATE);
    due("beyond ahead of state", x.best(6), Due.BEYOND);
    due("share", x.share(0), Due.STATE);
    due("share 1", x.share(1), Due.BEYOND);
    due("share -1", x.share(-1), Due.BEYOND);
    due("told BEYOND", x.told(1), 5);
    due("told NONE", x.told(2), 1);
    due("told STATE", x.told(3), 3);
  }

  private static void share() {
    FrostWills x = Due.withHeirs(3);
    due("no panes", x.share(2), 0);
    x.set(1, 7);
    x.pane(0, 19, 0, 0, 4);
    x.pane(5, 19, 0, 1, 3);
    // 0 ahead: 24 and 12; 1 ahead: 18 and 20.
    due("share 0", x.share(0), 20);
    due("share 1", x.share(1), 18);
    due("best", x.best(-1), 38);
    due("share 2", x.share(2), 0);
    due("share 3", x.share(3), Due.BEYOND);
    x.names(1, 0);
    due("share 0", x.share(0), 38);
  }

  private static void coldFor(int km, int clean, int lamp, int s, int want) {
    FrostWills x = Due.withHeirs(1);
    x.pane(km, clean, 0, 0, 1);
    x.set(2, lamp);
    due("cold for " + s + " of " + km + " by " + clean, x.coldFor(0, s), want);
    due("cold stays", x.count(2), 12);
  }

  private static void coldFor() {
    coldFor(0, 0, 0, 0, 0);
    coldFor(0, 0, 0, 1, 4);
    coldFor(0, 0, 0, 10, 40);
    coldFor(0, 0, 0, 11, Due.NONE);
    coldFor(0, 9, 0, 3, 0);
    coldFor(30, 9, 0, 1, 12);
    coldFor(30, 9, 0, 3, 24);
    coldFor(60, 0, 0, 2, 2);
    coldFor(60, 0, 0, 3, 5);
    coldFor(60, 0, 0, 11, 38);
    coldFor(60, 0, 0, 12, Due.NONE);
    coldFor(47, 0, 0, 3, 0);
    coldFor(50, 0, 0, 1, 4);
    coldFor(50, 0, 1, 1, Due.NONE);
    coldFor(50, 0, 1, 0, 0);
    FrostWills x = Due.withHeirs(1);
    due("no pane", x.coldFor(0, 0), Due.BEYOND);
    x.pane(0, 0, 0, 0, 0);
    due("s -1", x.coldFor(0, -1), Due.BEYOND);
    due("s 100", x.coldFor(0, 100), Due.BEYOND);
    due("s 99", x.coldFor(0, 99), Due.NONE);
    due("pane -1", x.coldFor(-1, 0), Due.BEYOND);
    due("told", x.told(1), 4);
    due("told NONE", x.told(2), 1);
  }

  private static void breath() {
    FrostWills x = Due.withHeirs(2);
    due("no panes, 0", x.breath(0, 0, 0), 0);
    due("no panes, 1", x.breath(0, 1, 0), Due.NONE);
    x.pane(0, 9, 0, 0, 1);
    x.pane(0, 9, 0, 0, 1);
    x.pane(0, 9, 0, 0, 2);
    due("24", x.breath(0, 24, 0), 0);
    due("25", x.breath(0, 25, 0), Due.NONE);
    Due.tell(x, 1, "(r=0)*w");
    int[] many = {0, 1, 1, 2, 3};
    int[] sets = {0, 1, 4, 5, 7};
    for (int v = 0; v < 5; v++) {
      due("how many for " + v, x.breath(0, v, 0), many[v]);
      due("set for " + v, x.breath(0, v, 1), sets[v]);
    }
    due("too much", x.breath(0, 5, 0), Due.NONE);
    due("most", x.breath(0, 99999, 1), Due.NONE);
    due("the other one", x.breath(1, 1, 0), Due.NONE);
    due("told NONE", x.told(2), 5);
    due("v -1", x.breath(0, -1, 0), Due.BEYOND);
    due("v 100000", x.breath(0, 100000, 0), Due.BEYOND);
    due("heir 2", x.breath(2, 0, 0), Due.BEYOND);
    due("heir -1", x.breath(-1, 0, 0), Due.BEYOND);
    due("what 2", x.breath(0, 0, 2), Due.BEYOND);
    due("what -1", x.breath(0, 0, -1), Due.BEYOND);
    due("told", x.told(1), 6);
    due("only thought", x.has(0) + x.count(5), 0);
    for (int i = 3; i < 8; i++) {
      x.pane(0, 9, 0, 1, 1);
    }
    due("eight panes", x.breath(1, 5, 1), 0xF8);
    due("eight panes", x.breath(1, 5, 0), 5);
  }

  /** What is read takes time: who breathes on the panes ahead comes to the next one earlier. */
  private static void breathByTime() {
    FrostWills x = Due.withHeirs(2);
    Due.tell(x, 0, "s");
    x.pane(0, 9, 0, 0, 1);
    x.pane(0, 9, 0, 0, 1);
    x.pane(0, 19, 0, 1, 3);
    due("at 18", x.breath(1, 0, 0), 0);
    due("at 13, none left", x.breath(1, 1, 0), 2);
    due("at 8", x.breath(1, 15, 1), 3);
    due("more", x.breath(1, 16, 1), Due.NONE);
    x.pane(0, 29, 0, 1, 1);
    x.set(1, 4);
    // Panes 2 and 3 at 16 and 17; at 11 and 13, 0 or 1 breathed on; at 6 and 12, both.
    due("at 11", x.breath(1, 9, 1), 1);
    due("at 6", x.breath(1, 10, 1), 3);
    due("at most", x.breath(1, 22, 1), 3);
    due("no more", x.breath(1, 23, 1), Due.NONE);
    due("heir 0", x.breath(0, 12, 1), 0);
  }

  private static void oddsAre(int km, int fc, int s, int hour, int above, int below) {
    FrostWills x = Due.withHeirs(1);
    x.pane(km, fc, 0, 0, 1);
    due("odds above", x.odds(0, s, hour, 0), above);
    due("odds below", x.odds(0, s, hour, 1), below);
    due("cold stays", x.count(2), 12);
  }

  private static void odds() {
    oddsAre(0, 0, 10, 0, 1, 41);
    oddsAre(0, 0, 0, 0, 1, 1);
    oddsAre(0, 0, 11, 0, 0, 1);
    oddsAre(0, 0, 99, 23, 0, 1);
    oddsAre(0, 0, 5, 0, 21, 41);
    oddsAre(0, 10, 1, 8, 33, 41);
    oddsAre(0, 10, 0, 23, 1, 1);
    oddsAre(30, 9, 1, 0, 29, 41);
    // It melts by odd colds alone: 1 is left at 8 by 4, 6 .. 40 and by 13, 15 .. 39.
    oddsAre(40, 13, 1, 8, 19 + 14, 41);
    FrostWills x = Due.withHeirs(1);
    due("no pane", x.odds(0, 0, 0, 0), Due.BEYOND);
    x.pane(50, 0, 0, 0, 1);
    due("by lamp", x.odds(0, 1, 0, 0), 37);
    x.set(2, 1);
    due("by lamp", x.odds(0, 1, 0, 0), 0);
    due("by lamp", x.odds(0, 1, 0, 1), 1);
    due("s -1", x.odds(0, -1, 0, 0), Due.BEYOND);
    due("s 100", x.odds(0, 100, 0, 0), Due.BEYOND);
    due("hour -1", x.odds(0, 0, -1, 0), Due.BEYOND);
    due("hour 24", x.odds(0, 0, 24, 0), Due.BEYOND);
    due("part -1", x.odds(0, 0, 0, -1), Due.BEYOND);
    due("part 2", x.odds(0, 0, 0, 2), Due.BEYOND);
    due("pane -1", x.odds(-1, 0, 0, 0), Due.BEYOND);
    due("told", x.told(1), 8);
  }

  private static void fits() {
    FrostWills x = Due.withHeirs(1);
    Due.row(x, 1, 8);
    due("no panes", x.fits(1, 0, 0), 41);
    due("no panes", x.fits(1, 0, 1), 0);
    x.pane(0, 0, 0, 0, 1);
    x.pane(60, 10, 0, 0, 1);
    Due.row(x, 0, 8, 3);
    due("fits", x.fits(0, 6, 0), 4);
    due("least", x.fits(0, 6, 1), 12);
    Due.row(x, 0, 16, 3, 4);
    due("fits by 13", x.fits(0, 6, 0), 1);
    due("least", x.fits(0, 6, 1), 13);
    due("fits at 8 by 14", x.fits(0, 8, 1), 14);
    Due.row(x, 0, 32, 3, 4, 0);
    due("more than panes", x.fits(0, 6, 0), 0);
    due("more than panes", x.fits(0, 6, 1), Due.NONE);
    Due.row(x, 0, 32, -1);
    due("below 0", x.fits(0, 6, 0), 0);
    Due.row(x, 0, 32, 0);
    due("cold stays", x.count(2), 12);
    due("none is so by 0 to 3", x.fits(0, 6, 0), 4);
    due("told NONE", x.told(2), 1);
    due("hour -1", x.fits(0, -1, 0), Due.BEYOND);
    due("hour 24", x.fits(0, 24, 0), Due.BEYOND);
    due("what 2", x.fits(0, 0, 2), Due.BEYOND);
    due("what -1", x.fits(0, 0, -1), Due.BEYOND);
    due("sheet 4", x.fits(4, 0, 0), Due.BEYOND);
    due("sheet -1", x.fits(-1, 0, 0), Due.BEYOND);
    due("beyond ahead of none", x.fits(3, 24, 0), Due.BEYOND);
    due("told", x.told(1), 7);
    due("missing", x.fits(3, 0, 0), Due.NONE);
    due("missing", x.fits(3, 0, 1), Due.NONE);
    due("told NONE", x.told(2), 3);
  }
}
