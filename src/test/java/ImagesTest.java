/** Promises 33 to 38: images, numbers that wait, what is told. */
public final class ImagesTest {
  private static void due(String call, long got, long want) {
    Due.due(call, got, want);
  }

  public static void main(String[] args) {
    image();
    restoreTapeAndTexts();
    restoreWhatWaits();
    whatAnImageLeaves();
    tell();
    check();
    count();
    told();
    Due.end("ImagesTest");
  }

  private static void image() {
    FrostWills x = new FrostWills();
    due("none", x.restore(), Due.NONE);
    due("image", x.image(), 1);
    Due.row(x, 0, 8, 0);
    x.heir();
    x.pane(12, 34, 5, 0, 67);
    x.set(0, 20);
    x.set(1, 3);
    x.set(2, 1);
    due("reading", x.reading(0), 3 * 67);
    x.seed(99);
    due("image", x.image(), 2);
    due("reading", x.reading(0), 3 * 67);
    x.heir();
    x.pane(0, 0, 0, 1, 0);
    x.become(0, 69);
    x.wipe(0, 0);
    x.names(0, 1);
    Due.row(x, 1, 8, 1);
    x.worths(1);
    x.set(0, 1);
    x.set(1, 23);
    x.set(2, 0);
    x.loose(5);
    due("restore", x.restore(), 1);
    int[] counts = {1, 1, 20, 3, 1, 1, 0, 0, 0, 0, 99};
    for (int i = 0; i < counts.length; i++) {
      due("count " + i, x.count(i), counts[i]);
    }
    int[] pane = {1, 2, 3, 4, 5, 0, 67, 3};
    for (int i = 0; i < pane.length; i++) {
      due("paneIs " + i, x.paneIs(0, i), pane[i]);
    }
    due("has 0", x.has(0), 3 * 67);
    due("has 1", x.has(1), Due.BEYOND);
    x.loose(2);
    due("the image stays", x.restore(), 1);
    due("a heir anew has nothing", x.heir(), 1);
    due("has 1", x.has(1), 0);
    due("image", x.image(), 3);
  }

  private static void restoreTapeAndTexts() {
    FrostWills x = new FrostWills();
    Due.tell(x, 0, "5");
    Due.write(x, "r*1");
    x.tell(3);
    x.image();
    due("no text, with what was on the tape", Due.tell(x, 0, "6"), -10);
    due("law", x.law(0, 0, 0, 0), 5);
    Due.tell(x, 0, "6");
    Due.tell(x, 1, "8");
    x.tell(4);
    x.tell(5);
    due("law", x.law(0, 0, 0, 0), 6);
    due("restore", x.restore(), 0);
    due("law 0", x.law(0, 0, 0, 0), 5);
    due("law 1", x.law(1, 2, 3, 0), 6);
    due("no text", x.untell(1), 0);
    due("the tape", x.count(7), 3);
    due("waiting", x.count(8), 1);
    Due.write(x, "2");
    due("text", x.text(1), 1);
    due("law 1", x.law(1, 2, 3, 0), 24);
  }

  private static void restoreWhatWaits() {
    FrostWills x = Due.withHeirs(2);
    x.tell(0);
    x.tell(1);
    x.image();
    due("check", x.check(), 2);
    x.tell(7);
    x.restore();
    due("waiting", x.count(8), 2);
    due("check, by what waited", x.check(), 2);
    x.restore();
    due("and again", x.check(), 2);
  }

  private static void whatAnImageLeaves() {
    FrostWills x = Due.withHeirs(1);
    x.pane(0, 0, 0, 0, 10);
    x.voice(0, 0, 1);
    due("number beyond", x.paneIs(5, 0), Due.BEYOND);
    x.image();
    x.voice(0, 2, 1);
    Due.row(x, 0, 8, 42);
    due("number beyond", x.paneIs(5, 0), Due.BEYOND);
    x.restore();
    due("the trace is as it was", x.count(9), 3);
    due("body", x.body(0), 12);
    due("sheets are as they were", x.worths(0), 1);
    due("worth", x.paneIs(0, 6), 42);
    due("told", x.told(1), 2);
    due("how often", x.image(), 2);
  }

  private static void tell() {
    FrostWills x = new FrostWills();
    for (int i = 1; i <= 24; i++) {
      due("tell", x.tell(-i), i);
    }
    due("tell 25th", x.tell(0), Due.FULL);
    due("waiting", x.count(8), 24);
    due("told FULL", x.told(4), 1);
    due("check", x.check(), 1);
    due("none wait", x.count(8), 0);
    due("tell", x.tell(0), 1);
  }

  private static void check() {
    FrostWills x = Due.withHeirs(3);
    due("nothing waits", x.check(), 0);
    x.pane(0, 0, 0, 1, 10);
    Due.row(x, 0, 8, 0);
    x.reading(0);
    x.tell(0);
    x.tell(30);
    due("both", x.check(), 0);
    due("none wait", x.count(8), 0);
    x.tell(0);
    x.tell(30);
    x.tell(0);
    due("all", x.check(), 0);
    x.tell(0);
    x.tell(30);
    x.tell(0);
    x.tell(0);
    due("no heir 3", x.check(), 4);
    x.tell(0);
    x.tell(29);
    x.tell(1);
    due("the first wrong one", x.check(), 2);
    x.tell(-1);
    due("the first", x.check(), 1);
    due("none wait", x.count(8), 0);
  }

  private static void count() {
    FrostWills x = Due.withHeirs(4);
    x.pane(0, 19, 0, 0, 1);
    x.pane(0, 19, 0, 0, 1);
    x.set(0, 33);
    x.set(1, 8);
    x.set(2, 1);
    Due.row(x, 0, 8, 0, 1);
    x.reading(0);
    x.reading(0);
    Due.write(x, "1234567");
    x.tell(1);
    x.tell(1);
    x.voice(0, 2, 0);
    x.seed(-1234567890);
    int[] want = {2, 4, 33, 8, 1, 2, 6, 7, 2, 3, -1234567890};
    for (int i = 0; i < want.length; i++) {
      due("count " + i, x.count(i), want[i]);
    }
    due("count -1", x.count(-1), Due.BEYOND);
    due("count 11", x.count(11), Due.BEYOND);
    due("told", x.told(1), 2);
    due("z is no error", x.told(2) + x.told(3) + x.told(4) + x.told(5) + x.told(6), 0);
  }

  private static void told() {
    FrostWills x = new FrostWills();
    due("told 0", x.told(0), Due.BEYOND);
    due("told 7", x.told(7), Due.BEYOND);
    due("told -1", x.told(-1), Due.BEYOND);
    due("told most", x.told(Integer.MAX_VALUE), Due.BEYOND);
    due("told 1", x.told(1), 4);
    x.restore();
    due("told 2", x.told(2), 1);
    x.sheet(0, 8, -1);
    due("told 3", x.told(3), 1);
    for (int i = 0; i < 7; i++) {
      x.heir();
    }
    due("told 4", x.told(4), 1);
    x.pane(0, 0, 0, 0, 0);
    x.as(0, 1);
    due("told 5", x.told(5), 1);
    x.voice(0, 3, 0);
    due("told 6", x.told(6), 1);
    due("told 1", x.told(1), 4);
    due("a fault is no error", x.text(0), -10);
    due("told 2", x.told(2), 1);
  }
}
