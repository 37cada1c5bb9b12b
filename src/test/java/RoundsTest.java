/** Promises 15 to 18: rounds, reading, nights by draws, seed. */
public final class RoundsTest {
  private static void due(String call, long got, long want) {
    Due.due(call, got, want);
  }

  public static void main(String[] args) {
    round();
    roundByTexts();
    roundBeyondTheDay();
    noRound();
    reading();
    readingHeld();
    readingErrors();
    loose();
    manyNights();
    seed();
    Due.end("RoundsTest");
  }

  /** By cold 12 they have 6, 6 and 4 strokes; they melt by 1 from 7 on, by 2 from 10 on, not. */
  private static FrostWills threePanes() {
    FrostWills x = Due.withHeirs(2);
    due("pane 0", x.pane(0, 19, 0, 0, 5), 0);
    due("pane 1", x.pane(5, 29, 2, 1, 7), 1);
    due("pane 2", x.pane(22, 9, 9, 0, 10), 2);
    Due.row(x, 0, 8, 0, 1, 2);
    Due.row(x, 1, 16, 2, 1, 0);
    Due.row(x, 2, 32, 2, 0, 1);
    Due.row(x, 3, 32, 1, 0, 2);
    return x;
  }

  private static void round() {
    FrostWills x = threePanes();
    due("round 0 at 6", x.round(0), 112);
    x.set(1, 10);
    due("round 0", x.round(0), 83);
    due("round 1", x.round(1), 73);
    due("only thought", x.has(0) + x.has(1) + x.has(-1) + x.count(5), 0);
  }

  private static void roundByTexts() {
    FrostWills x = threePanes();
    x.set(1, 10);
    Due.tell(x, 0, "f+1");
    due("by floor", x.round(0), 83);
    due("by floor, held at 9", x.round(2), 40);
    Due.tell(x, 0, "s");
    due("by strokes", x.round(3), 82);
    Due.tell(x, 0, "1+s-s+(f=2)*6");
    due("each by its own floor", x.round(1), 40 + 28);
    due("each by its own floor", x.round(0), 15 + 28 + 40);
    Due.tell(x, 0, "k+1");
    due("by kind", x.round(1), 40);
    Due.tell(x, 0, "0");
    due("held at 1", x.round(1), 73);
    x.untell(0);
    Due.tell(x, 1, "r*w+h*1000");
    due("by value", x.round(0), 1083);
    Due.tell(x, 1, "9999");
    due("by value", x.round(0), 29997);
    Due.tell(x, 1, "0-r");
    due("held at 0", x.round(0), 0);
  }

  private static void roundBeyondTheDay() {
    FrostWills x = Due.withHeirs(1);
    x.set(0, 40);
    x.set(1, 23);
    x.pane(0, 39, 0, 0, 1);
    x.pane(0, 39, 0, 0, 1);
    Due.row(x, 0, 8, 1, 0);
    due("at 23 and 24", x.round(0), 9);
    Due.tell(x, 0, "4");
    due("at 23 and 27", x.round(0), 6);
  }

  private static void noRound() {
    FrostWills x = new FrostWills();
    due("missing", x.round(0), Due.NONE);
    due("missing", x.reading(0), Due.NONE);
    Due.row(x, 0, 8);
    due("no panes, no numbers", x.round(0), 0);
    due("no panes, no numbers", x.reading(0), 0);
    due("nights", x.count(5), 1);
    Due.row(x, 0, 8, 0);
    due("no pane", x.round(0), Due.NONE);
    x = threePanes();
    int[][] bad = {{0, 1}, {0, 1, 1}, {0, 1, 3}, {0, 1, -1}, {0, 1, 2, 0}, {}, {0, 1, 34}};
    for (int[] b : bad) {
      Due.row(x, 0, 32, b);
      due("no round", x.round(0), Due.NONE);
      due("no reading", x.reading(0), Due.NONE);
    }
    due("told NONE", x.told(2), 2 * bad.length);
    x.sheet(0, 0, 0);
    due("missing again", x.round(0), Due.NONE);
    due("missing again", x.reading(0), Due.NONE);
    due("round 4", x.round(4), Due.BEYOND);
    due("round -1", x.round(-1), Due.BEYOND);
    due("reading 4", x.reading(4), Due.BEYOND);
    due("reading -1", x.reading(-1), Due.BEYOND);
    due("told", x.told(1), 4);
    due("nothing read", x.count(5), 0);
  }

  private static void reading() {
    FrostWills x = threePanes();
    x.set(1, 10);
    due("reading", x.reading(0), 83);
    due("has 0", x.has(0), 55);
    due("has 1", x.has(1), 28);
    due("has -1", x.has(-1), 29);
    due("nights", x.count(5), 1);
    due("reading", x.reading(1), 73);
    due("has 0", x.has(0), 100);
    due("has 1", x.has(1), 56);
    due("has -1", x.has(-1), 29 + 25 + 14);
    due("nights", x.count(5), 2);
    due("cold stays", x.count(2), 12);
    due("hour stays", x.count(3), 10);
    Due.tell(x, 1, "20-r");
    due("less is worth more", x.reading(0), 17 + 16 + 16);
    due("has 0", x.has(0), 133);
    due("has 1", x.has(1), 72);
    due("the church has no more", x.has(-1), 68);
  }

  private static void readingHeld() {
    FrostWills x = threePanes();
    x.set(1, 10);
    Due.tell(x, 1, "(h=1)*9999+(h=0)*(r>5)*9999");
    for (int night = 1; night <= 10; night++) {
      due("reading", x.reading(0), 9999);
      due("has 1", x.has(1), 9999 * night);
      due("has -1", x.has(-1), 9999 * night);
    }
    due("reading", x.reading(0), 9999);
    due("has 1 held", x.has(1), 99999);
    due("has -1 held", x.has(-1), 99999);
    due("has 0", x.has(0), 0);
  }

  private static void readingErrors() {
    FrostWills x = threePanes();
    for (int i = 0; i < 333; i++) {
      x.loose(30);
    }
    due("nights", x.count(5), 9990);
    due("loose over", x.loose(10), Due.STATE);
    due("nights", x.count(5), 9990);
    int z = x.count(10);
    due("loose to the last", x.loose(9) >= 0 ? 1 : 0, 1);
    due("draws", x.count(10) == z ? 1 : 0, 0);
    due("nights", x.count(5), 9999);
    z = x.count(10);
    int cold = x.count(2);
    due("loose", x.loose(1), Due.STATE);
    due("loose beyond ahead of state", x.loose(31), Due.BEYOND);
    due("reading", x.reading(0), Due.STATE);
    due("reading beyond ahead of state", x.reading(4), Due.BEYOND);
    x.put(0, 0, 1);
    due("reading none ahead of state", x.reading(0), Due.NONE);
    due("told STATE", x.told(3), 3);
    due("z stays", x.count(10), z);
    due("cold stays", x.count(2), cold);
    due("nights", x.count(5), 9999);
    due("round still", x.round(1) >= 0 ? 1 : 0, 1);
  }

  private static void loose() {
    FrostWills x = Due.withHeirs(1);
    x.pane(0, 0, 0, 0, 1);
    x.pane(50, 9, 0, 0, 10);
    due("loose 0", x.loose(0), Due.BEYOND);
    due("loose 31", x.loose(31), Due.BEYOND);
    due("loose -1", x.loose(-1), Due.BEYOND);
    due("told", x.told(1), 3);
    due("z", x.count(10), 1);
    due("loose 1", x.loose(1), 0);
    due("z", x.count(10), -1770082073);
    due("cold", x.count(2), 37);
    due("lamp", x.count(4), 0);
    due("nights", x.count(5), 1);
    due("has", x.has(0), 9 + 120);
    due("loose 1", x.loose(1), 0);
    due("z", x.count(10), -999580867);
    due("cold", x.count(2), 6);
    due("lamp", x.count(4), 1);
    due("has", x.has(0), 9 + 120 + 1);
    due("nights", x.count(5), 2);
  }

  private static void manyNights() {
    FrostWills one = threePanes();
    FrostWills other = threePanes();
    one.set(1, 11);
    other.set(1, 11);
    due("by numbers", one.loose(1), 20 + 28);
    due("has 0", one.has(0), 40 + 100);
    due("has 1", one.has(1), 56);
    one.loose(29);
    int church = other.loose(30);
    due("the same", one.has(-1), church);
    due("the same", one.has(0), other.has(0));
    due("the same", one.has(1), other.has(1));
    due("the same", one.count(10), other.count(10));
    due("nights", other.count(5), 30);
  }

  private static void seed() {
    FrostWills x = new FrostWills();
    due("seed", x.seed(-2000000000), 1);
    due("seed", x.seed(7), -2000000000);
    due("no error", x.told(1) + x.told(2) + x.told(3), 0);
    due("z", x.count(10), 7);
    x.seed(1);
    x.loose(1);
    due("z", x.count(10), -1770082073);
    x.seed(0);
    x.loose(1);
    due("cold", x.count(2), 48 % 41);
  }
}
