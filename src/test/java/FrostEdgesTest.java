/** Terms, 1: each edge that STROKES, MELTS and LEFT of a KIND have. Rows: km, CLEAN, COLD, LAMP, due. */
public final class FrostEdgesTest {
  private static final int[][] STROKES = {
    // PANE: each by itself is cut, by 4 and by 3.
    {0, 0, 0, 0, 0}, {0, 0, 3, 0, 0}, {0, 0, 4, 0, 1}, {0, 0, 7, 0, 1}, {0, 0, 8, 0, 2},
    {0, 0, 39, 0, 9}, {0, 0, 40, 0, 10}, {0, 2, 0, 0, 0}, {0, 3, 0, 0, 1}, {0, 5, 0, 0, 1},
    {0, 6, 0, 0, 2}, {0, 8, 0, 0, 2}, {0, 9, 0, 0, 3}, {0, 2, 3, 0, 0}, {9, 9, 40, 1, 13},
    // DOUBLE: half of both together, cut.
    {10, 0, 0, 0, 0}, {10, 0, 4, 0, 0}, {10, 0, 8, 0, 1}, {10, 0, 12, 0, 1}, {10, 3, 4, 0, 1},
    {19, 9, 40, 1, 6},
    // KITCHEN: less m, 0 at least.
    {20, 0, 12, 0, 3}, {22, 0, 12, 0, 1}, {23, 0, 12, 0, 0}, {24, 0, 12, 0, 0}, {29, 0, 0, 0, 0},
    {29, 9, 40, 1, 4},
    // OILED: 0 below 12, else by 3, cut.
    {30, 9, 0, 0, 0}, {30, 9, 11, 0, 0}, {30, 9, 12, 0, 2}, {30, 0, 12, 0, 1}, {30, 6, 12, 0, 1},
    {30, 0, 23, 0, 1}, {30, 0, 24, 0, 2}, {39, 9, 40, 1, 4},
    // ENTAIL: as DOUBLE (1 here), but the rest of m by 4 at least.
    {40, 0, 8, 0, 1}, {41, 0, 8, 0, 1}, {42, 0, 8, 0, 2}, {43, 0, 8, 0, 3}, {44, 0, 8, 0, 1},
    {45, 0, 8, 0, 1}, {46, 0, 8, 0, 2}, {47, 0, 8, 0, 3}, {48, 0, 8, 0, 1}, {49, 0, 8, 0, 1},
    {43, 0, 0, 0, 3}, {40, 0, 0, 0, 0}, {43, 9, 40, 1, 6}, {43, 0, 28, 0, 3}, {43, 0, 32, 0, 4},
    // LAMPED: 0 by the LAMP, else as KITCHEN.
    {50, 9, 40, 0, 13}, {50, 9, 40, 1, 0}, {52, 0, 12, 0, 1}, {53, 0, 12, 0, 0}, {54, 0, 12, 0, 0},
    {52, 0, 12, 1, 0}, {59, 0, 0, 1, 0},
    // CRACKED: and the rest of COLD by 3.
    {60, 0, 0, 0, 0}, {60, 0, 1, 0, 1}, {60, 0, 2, 0, 2}, {60, 0, 3, 0, 0}, {60, 0, 4, 0, 2},
    {60, 0, 5, 0, 3}, {60, 0, 39, 0, 9}, {69, 9, 38, 1, 14}, {69, 9, 40, 1, 14}
  };
  /** Of what faces east, at 8: one hour in the sun. */
  private static final int[][] AN_HOUR = {
    {0, 9, 40, 0, 12}, {4, 9, 40, 0, 12}, {5, 9, 40, 0, 11}, {9, 9, 40, 0, 11}, {0, 9, 39, 0, 11},
    {10, 9, 40, 0, 6}, {14, 9, 40, 0, 6}, {15, 9, 40, 0, 5}, {19, 9, 40, 0, 5}, {14, 9, 39, 0, 6},
    {20, 9, 40, 0, 11}, {24, 9, 40, 0, 7}, {25, 9, 40, 0, 4}, {29, 9, 40, 0, 0},
    {30, 9, 40, 0, 3}, {34, 9, 40, 0, 3}, {35, 9, 40, 0, 2}, {39, 9, 40, 0, 2}, {35, 9, 39, 0, 2},
    {40, 9, 40, 0, 6}, {44, 9, 40, 0, 6}, {45, 9, 40, 0, 5}, {49, 9, 40, 0, 5},
    {40, 9, 39, 0, 5}, {44, 9, 39, 0, 5}, {45, 9, 39, 0, 4}, {49, 9, 37, 0, 4},
    {50, 9, 40, 0, 11}, {54, 9, 40, 0, 7}, {55, 9, 40, 0, 4}, {59, 9, 40, 0, 0}, {50, 9, 40, 1, 0},
    {60, 9, 40, 0, 13}, {61, 9, 40, 0, 12}, {64, 9, 40, 0, 9}, {65, 9, 40, 0, 7}, {69, 9, 40, 0, 3}
  };

  public static void main(String[] args) {
    strokes();
    anHour();
    byTheLamp();
    theSun();
    noneBelowNothing();
    newPanes();
    changes();
    Due.end("FrostEdgesTest");
  }

  private static FrostWills window(int km, int fc, int cold, int lamp) {
    FrostWills x = Due.withHeirs(1);
    Due.due("pane " + km, x.pane(km, fc, 0, 0, 1), 0);
    x.set(0, cold);
    x.set(2, lamp);
    return x;
  }

  private static void strokes() {
    for (int[] s : STROKES) {
      FrostWills x = window(s[0], s[1], s[2], s[3]);
      String call = "strokes of " + s[0] + ", clean " + s[1] + ", cold " + s[2] + ", lamp " + s[3];
      Due.due(call, x.paneIs(0, 7), s[4]);
      Due.due(call + ", left north", x.left(0, 23), s[4]);
      Due.due(call + ", by another way", become(s).paneIs(0, 7), s[4]);
    }
  }

  /** The same, of a pane that was another one. */
  private static FrostWills become(int[] s) {
    FrostWills x = window(s[0] < 35 ? 69 : 1, 9 - s[1], 17, 1 - s[3]);
    x.become(0, s[0]);
    x.wipe(0, s[1]);
    x.set(0, s[2]);
    x.set(2, s[3]);
    return x;
  }

  private static void anHour() {
    for (int[] s : AN_HOUR) {
      FrostWills x = window(s[0], 10 + s[1], s[2], s[3]);
      String call = "left of " + s[0] + ", cold " + s[2] + ", lamp " + s[3];
      Due.due(call + " at 8", x.left(0, 8), s[4]);
      Due.due(call + " at 7", x.left(0, 7), x.paneIs(0, 7));
    }
  }

  /** Of all KINDS but LAMPED the LAMP takes nothing. */
  private static void byTheLamp() {
    for (int kind = 0; kind < 7; kind++) {
      int dark = window(10 * kind + 2, 19, 40, 0).left(0, 8);
      int lit = window(10 * kind + 2, 19, 40, 1).left(0, 8);
      Due.due("lit, of kind " + kind, lit, kind == 5 ? 0 : dark);
      Due.due("dark, of kind " + kind, dark > 0 ? 1 : 0, 1);
    }
  }

  /** At 7 to the east, at 10 to the south, at 15 to the west; never to the north. */
  private static void theSun() {
    int[] comes = {24, 7, 10, 15};
    for (int facing = 0; facing < 4; facing++) {
      FrostWills x = window(0, 10 * facing + 9, 40, 0);
      for (int hour = 0; hour <= 23; hour++) {
        int want = hour <= comes[facing] ? 13 : 13 - (hour - comes[facing]);
        Due.due("facing " + facing + " at " + hour, x.left(0, hour), want < 0 ? 0 : want);
      }
    }
  }

  /** 0 at least: one left, none left, and less than none. 11 STROKES, MELTS 2; then 12. */
  private static void noneBelowNothing() {
    FrostWills x = window(5, 19, 32, 0);
    Due.due("11 less 10", x.left(0, 12), 1);
    Due.due("11 less 12", x.left(0, 13), 0);
    Due.due("11 less 32", x.left(0, 23), 0);
    x.set(0, 36);
    Due.due("12 less 10", x.left(0, 12), 2);
    Due.due("12 less 12", x.left(0, 13), 0);
    Due.due("12 less 14", x.left(0, 14), 0);
  }

  /** Promise 3: what a PANE was made with, the least and the most of each. */
  private static void newPanes() {
    int[][] made = {
      {0, 0, 0, 0, 0, 0, 0, 0, 0, 0, 0, 0}, {69, 39, 9, 5, 99, 6, 9, 3, 9, 9, 5, 99},
      {9, 9, 0, 0, 1, 0, 9, 0, 9, 0, 0, 1}, {10, 10, 1, 1, 98, 1, 0, 1, 0, 1, 1, 98},
      {60, 30, 8, 4, 50, 6, 0, 3, 0, 8, 4, 50}, {59, 29, 5, 3, 10, 5, 9, 2, 9, 5, 3, 10}
    };
    FrostWills x = Due.withHeirs(6);
    for (int i = 0; i < made.length; i++) {
      int[] p = made[i];
      Due.due("pane", x.pane(p[0], p[1], p[2], p[3], p[4]), i);
    }
    for (int i = 0; i < made.length; i++) {
      for (int what = 0; what < 7; what++) {
        Due.due("paneIs " + i + " " + what, x.paneIs(i, what), made[i][5 + what]);
      }
    }
  }

  /** Promises 5, 7 and 8: of one PANE alone, and of that what was asked alone. */
  private static void changes() {
    FrostWills x = Due.withHeirs(6);
    x.pane(69, 39, 9, 5, 99);
    x.pane(69, 39, 9, 5, 99);
    x.pane(69, 39, 9, 5, 99);
    Due.due("become 0", x.become(1, 0), 6);
    Due.due("become 69", x.become(1, 69), 0);
    Due.due("become 9", x.become(1, 9), 6);
    Due.due("wipe 0", x.wipe(1, 0), 9);
    Due.due("wipe 9", x.wipe(1, 9), 0);
    Due.due("wipe 1", x.wipe(1, 1), 9);
    Due.due("names 0", x.names(1, 0), 5);
    Due.due("names 5", x.names(1, 5), 0);
    Due.due("names 2", x.names(1, 2), 5);
    int[] is = {0, 9, 3, 1, 9, 2, 99};
    int[] others = {6, 9, 3, 9, 9, 5, 99};
    for (int what = 0; what < 7; what++) {
      Due.due("paneIs 0 " + what, x.paneIs(0, what), others[what]);
      Due.due("paneIs 1 " + what, x.paneIs(1, what), is[what]);
      Due.due("paneIs 2 " + what, x.paneIs(2, what), others[what]);
    }
  }
}
