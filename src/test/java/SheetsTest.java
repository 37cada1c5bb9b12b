/** Promises 28 to 32: sheets, what is put, moved and read from them. */
public final class SheetsTest {
  private static void due(String call, long got, long want) {
    Due.due(call, got, want);
  }

  public static void main(String[] args) {
    sheet();
    put();
    move();
    moveErrors();
    worths();
    judge();
    Due.end("SheetsTest");
  }

  /** The numbers as the worths of panes, 99 at most; the panes tell them. */
  private static void holds(FrostWills x, int sheet, int... want) {
    due("numbers", x.worths(sheet), want.length);
    for (int i = 0; i < want.length; i++) {
      due("number " + i, x.paneIs(i, 6), want[i]);
    }
  }

  private static FrostWills withPanes() {
    FrostWills x = Due.withHeirs(1);
    for (int i = 0; i < 8; i++) {
      x.pane(0, 0, 0, 0, 50);
    }
    return x;
  }

  private static void sheet() {
    FrostWills x = withPanes();
    due("bits 7", x.sheet(0, 7, 1), Due.BEYOND);
    due("bits -8", x.sheet(0, -8, 1), Due.BEYOND);
    due("bits 64", x.sheet(0, 64, 1), Due.BEYOND);
    due("sheet 4", x.sheet(4, 8, 1), Due.BEYOND);
    due("sheet -1", x.sheet(-1, 8, 1), Due.BEYOND);
    due("bits ahead of n", x.sheet(0, 7, -1), Due.BEYOND);
    due("sheet ahead of n", x.sheet(4, 8, -1), Due.BEYOND);
    due("n -1", x.sheet(0, 8, -1), Due.STATE);
    due("n least", x.sheet(0, 8, Integer.MIN_VALUE), Due.STATE);
    due("n 25", x.sheet(0, 8, 25), Due.BEYOND);
    due("told BEYOND", x.told(1), 8);
    due("told STATE", x.told(3), 2);
    due("still missing", x.put(0, 0, 0), Due.NONE);
    due("24", x.sheet(0, 8, 24), 1);
    due("last", x.put(0, 23, 1), 1);
    due("none there", x.put(0, 24, 1), Due.BEYOND);
    due("anew", x.sheet(0, 16, 3), 1);
    holds(x, 0, 0, 0, 0);
    x.put(0, 1, 9);
    due("wrong", x.sheet(0, 8, 25), Due.BEYOND);
    holds(x, 0, 0, 9, 0);
    due("anew, all 0", x.sheet(0, 16, 3), 1);
    holds(x, 0, 0, 0, 0);
    due("missing", x.sheet(0, 0, -5), 1);
    due("missing", x.worths(0), Due.NONE);
    due("missing, n 100", x.sheet(0, 0, 100), 1);
    due("of 0 numbers", x.sheet(0, 32, 0), 1);
    due("none there", x.put(0, 0, 0), Due.BEYOND);
    due("not missing", x.worths(0), 0);
  }

  private static void put() {
    FrostWills x = withPanes();
    due("sheet -1", x.put(-1, 0, 0), Due.BEYOND);
    due("sheet 4", x.put(4, 0, 0), Due.BEYOND);
    due("missing ahead of no number", x.put(0, -1, 0), Due.NONE);
    x.sheet(0, 8, 2);
    x.sheet(1, 16, 2);
    x.sheet(2, 32, 2);
    due("number -1", x.put(0, -1, 0), Due.BEYOND);
    due("number 2", x.put(0, 2, 0), Due.BEYOND);
    due("number 24", x.put(0, 24, 0), Due.BEYOND);
    due("told", x.told(1), 5);
    due("8 bits", x.put(0, 0, 0x7FFFFF05), 1);
    due("8 bits", x.put(0, 1, -256 + 98), 1);
    holds(x, 0, 5, 98);
    due("16 bits", x.put(1, 0, 0x7FFF0006), 1);
    due("16 bits", x.put(1, 1, -65536 + 97), 1);
    holds(x, 1, 6, 97);
    x.put(1, 0, 256);
    due("16 bits are more than 8", x.worths(1), 0);
    due("32 bits", x.put(2, 0, 7), 1);
    due("32 bits", x.put(2, 1, 65536), 1);
    due("32 bits are more than 16", x.worths(2), 1);
    x.put(2, 1, Integer.MIN_VALUE + 1);
    due("32 bits are all", x.worths(2), 1);
  }

  private static void move() {
    FrostWills x = withPanes();
    Due.row(x, 0, 8, 1, 2, 3, 4, 5);
    due("onward", x.move(0, 0, 0, 1, 4), 4);
    holds(x, 0, 1, 1, 2, 3, 4);
    Due.row(x, 0, 8, 1, 2, 3, 4, 5);
    due("back", x.move(0, 1, 0, 0, 4), 4);
    holds(x, 0, 2, 3, 4, 5, 5);
    Due.row(x, 1, 8, 11, 12, 13);
    due("to another", x.move(1, 1, 0, 3, 2), 2);
    holds(x, 0, 2, 3, 4, 12, 13);
    holds(x, 1, 11, 12, 13);
    due("all", x.move(1, 0, 0, 0, 3), 3);
    holds(x, 0, 11, 12, 13, 12, 13);
    due("none", x.move(1, 3, 0, 5, 0), 0);
    due("none", x.move(1, 0, 0, 0, 0), 0);
    Due.row(x, 2, 32, -7, 8);
    Due.row(x, 3, 32, 0, 0);
    due("32 bits", x.move(2, 0, 3, 0, 2), 2);
    due("below 0", x.worths(3), 0);
    x.put(3, 0, 1);
    holds(x, 3, 1, 8);
  }

  private static void moveErrors() {
    FrostWills x = withPanes();
    Due.row(x, 0, 8, 1, 2, 3);
    Due.row(x, 1, 8, 4, 5);
    Due.row(x, 2, 16, 6, 7);
    due("sheet 4", x.move(4, 0, 0, 0, 1), Due.BEYOND);
    due("sheet -1", x.move(-1, 0, 0, 0, 1), Due.BEYOND);
    due("other 4", x.move(0, 0, 4, 0, 1), Due.BEYOND);
    due("beyond ahead of none", x.move(3, 0, -1, 0, 1), Due.BEYOND);
    due("missing", x.move(3, 0, 0, 0, 1), Due.NONE);
    due("other missing", x.move(0, 0, 3, 0, -1), Due.NONE);
    due("unlike", x.move(0, 0, 2, 0, 1), Due.KIND);
    due("kind ahead of beyond", x.move(2, 9, 1, -9, 99), Due.KIND);
    due("n -1", x.move(0, 0, 1, 0, -1), Due.BEYOND);
    due("i -1", x.move(0, -1, 1, 0, 1), Due.BEYOND);
    due("j -1", x.move(0, 0, 1, -1, 1), Due.BEYOND);
    due("n too many here", x.move(0, 2, 1, 0, 2), Due.BEYOND);
    due("n too many there", x.move(0, 0, 1, 1, 2), Due.BEYOND);
    due("i most", x.move(0, Integer.MAX_VALUE, 1, 0, 1), Due.BEYOND);
    due("j most", x.move(0, 0, 1, Integer.MAX_VALUE, 1), Due.BEYOND);
    due("n most", x.move(0, 1, 1, 1, Integer.MAX_VALUE), Due.BEYOND);
    due("0 from 4 on", x.move(0, 4, 1, 0, 0), Due.BEYOND);
    due("0 to 3 on", x.move(0, 0, 1, 3, 0), Due.BEYOND);
    due("told BEYOND", x.told(1), 14);
    due("told NONE", x.told(2), 2);
    due("told KIND", x.told(5), 2);
    holds(x, 0, 1, 2, 3);
    holds(x, 1, 4, 5);
    holds(x, 2, 6, 7);
  }

  private static void worths() {
    FrostWills x = withPanes();
    due("sheet -1", x.worths(-1), Due.BEYOND);
    due("sheet 4", x.worths(4), Due.BEYOND);
    due("missing", x.worths(0), Due.NONE);
    Due.row(x, 0, 8, 1, 99, 100, 3);
    due("up to 100", x.worths(0), 2);
    due("worth 0", x.paneIs(0, 6), 1);
    due("worth 1", x.paneIs(1, 6), 99);
    due("worth 2", x.paneIs(2, 6), 50);
    due("worth 3", x.paneIs(3, 6), 50);
    Due.row(x, 0, 32, 0, 7, -1);
    due("up to -1", x.worths(0), 2);
    due("worth 0", x.paneIs(0, 6), 0);
    Due.row(x, 0, 16, 1, 2, 3, 4, 5, 6, 7, 8, 9, 10);
    due("as many as there are panes", x.worths(0), 8);
    due("worth 7", x.paneIs(7, 6), 8);
    Due.row(x, 0, 16, 9, 9);
    due("two", x.worths(0), 2);
    due("the third stays", x.paneIs(2, 6), 3);
    due("told BEYOND", x.told(1), 2);
    due("told NONE", x.told(2), 1);
  }

  private static void judge() {
    FrostWills x = Due.withHeirs(1);
    due("sheet -1", x.judge(-1), Due.BEYOND);
    due("sheet 4", x.judge(4), Due.BEYOND);
    due("missing", x.judge(0), Due.NONE);
    Due.row(x, 0, 8, 6, 6, 0);
    due("no panes", x.judge(0), 0);
    x.pane(0, 9, 0, 0, 1);
    x.pane(0, 19, 0, 0, 1);
    due("two, and no third pane", x.judge(0), 2);
    x.set(1, 8);
    due("one at 8", x.judge(0), 1);
    x.put(0, 1, 5);
    due("two at 8", x.judge(0), 2);
    x.put(0, 0, 5);
    due("from the first on", x.judge(0), 0);
    Due.row(x, 0, 32, 6);
    due("all of one", x.judge(0), 1);
    x.set(0, 16);
    due("by the cold", x.judge(0), 0);
  }
}
