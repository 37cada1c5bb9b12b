/**
 * Promise by promise, each number of a call: the last values that are taken, and on both sides the
 * first that are refused, which changes nothing but what told() tells. What a house holds stands
 * with Twins.house().
 */
public final class BoundsTest {
  private static final int LEAST = Integer.MIN_VALUE;
  private static final int MOST = Integer.MAX_VALUE;

  public static void main(String[] args) {
    panes();
    heirsAndSettings();
    texts();
    rounds();
    thoughtOfPanes();
    thoughtOfHeirs();
    thoughtOfSheets();
    voices();
    sheets();
    moves();
    whatIsTold();
    anyNumber();
    Due.end("BoundsTest");
  }

  /** Promises 3 to 8. */
  private static void panes() {
    Bound.of("pane km", (x, v) -> x.pane(v, 0, 0, 0, 0)).takes(0, 4).takes(69, 4).beyond(-1, 70);
    Bound.of("pane fc", (x, v) -> x.pane(0, v, 0, 0, 0)).takes(0, 4).takes(39, 4).beyond(-1, 40);
    Bound.of("pane floor", (x, v) -> x.pane(0, 0, v, 0, 0)).takes(0, 4).takes(9, 4).beyond(-1, 10);
    Bound.of("pane heir", (x, v) -> x.pane(0, 0, 0, v, 0)).takes(0, 4).takes(2, 4).beyond(-1, 3);
    Bound.of("pane worth", (x, v) -> x.pane(0, 0, 0, 0, v)).takes(0, 4).takes(99, 4).beyond(-1, 100);
    Bound.of("paneIs pane", (x, v) -> x.paneIs(v, 6)).takes(0, 5).takes(3, 2).beyond(-1, 4);
    Bound.of("paneIs what", (x, v) -> x.paneIs(0, v)).takes(0, 0).takes(7, 11).beyond(-1, 8);
    Bound.of("become pane", (x, v) -> x.become(v, 30)).takes(0, 0).takes(3, 6).beyond(-1, 4);
    Bound.of("become km", (x, v) -> x.become(2, v)).takes(0, 4).takes(69, 4).beyond(-1, 70);
    Bound.of("as pane", (x, v) -> x.as(v, 0)).takes(0, 5).takes(3, 4).beyond(-1, 4);
    Bound.of("as kind", (x, v) -> x.as(3, v)).takes(0, 4).takes(6, 4).beyond(-1, 7);
    Bound.of("wipe pane", (x, v) -> x.wipe(v, 0)).takes(1, 6).takes(3, 9).beyond(-1, 4);
    Bound.of("wipe clean", (x, v) -> x.wipe(1, v)).takes(0, 6).takes(9, 6).beyond(-1, 10);
    Bound.of("names pane", (x, v) -> x.names(v, 0)).takes(0, 0).takes(3, 1).beyond(-1, 4);
    Bound.of("names heir", (x, v) -> x.names(1, v)).takes(0, 1).takes(2, 1).beyond(-1, 3);
  }

  /** Promises 9 and 10. */
  private static void heirsAndSettings() {
    Bound.of("has", FrostWills::has).takes(-1, 83).takes(0, 40).takes(2, 6).beyond(-2, 3);
    Bound.of("set what", (x, v) -> x.set(v, 1)).takes(0, 33).takes(2, 0).beyond(-1, 3);
    Bound.of("set cold", (x, v) -> x.set(0, v)).takes(0, 33).takes(40, 33).beyond(-1, 41);
    Bound.of("set hour", (x, v) -> x.set(1, v)).takes(0, 8).takes(23, 8).beyond(-1, 24);
    Bound.of("set lamp", (x, v) -> x.set(2, v)).takes(0, 0).takes(1, 0).beyond(-1, 2);
  }

  /** Promises 11 to 14; of text(), that THE TAPE stays. */
  private static void texts() {
    Bound.of("feed n", (x, v) -> x.feed(0L, v)).takes(1, 4).takes(8, 11).beyond(0, 9);
    Bound.of("feed n", (x, v) -> x.feed(-1L, v)).beyond(-1, 64);
    Bound.of("text", FrostWills::text).takes(0, 1).takes(1, 1).beyond(-1, 2);
    Bound.of("untell", FrostWills::untell).takes(0, 1).takes(1, 1).beyond(-1, 2);
    Bound.of("law", (x, v) -> x.law(v, 3, 2, 1)).takes(0, 2).takes(1, 9).beyond(-1, 2);
  }

  /** So many of an act's calls with a sheet that is there. */
  private static Bound.Call withRow(Bound.Call call, int... numbers) {
    return (x, v) -> {
      if (v >= 0 && v <= 3) {
        Due.row(x, v, 8, numbers);
      }
      return call.by(x, v);
    };
  }

  /** Promises 15 to 17. */
  private static void rounds() {
    Bound.of("round", withRow(FrostWills::round, 3, 1, 0, 2)).takes(0, 79).takes(3, 79).beyond(-1, 4);
    Bound.of("reading", withRow(FrostWills::reading, 3, 1, 0, 2))
        .takes(0, 79).takes(3, 79).beyond(-1, 4);
    new Bound("loose", () -> Twins.crowd(1, 0), FrostWills::loose)
        .takes(1, 0).takes(30, 0).beyond(0, 31);
    Bound.of("loose", FrostWills::loose).beyond(0, 31).beyond(-1, 32);
  }

  /** Promises 19, 22 and 24. */
  private static void thoughtOfPanes() {
    Bound.of("left pane", (x, v) -> x.left(v, 8)).takes(0, 9).takes(3, 11).beyond(-1, 4);
    Bound.of("left hour", (x, v) -> x.left(0, v)).takes(0, 11).takes(23, 0).beyond(-1, 24);
    Bound.of("coldFor pane", (x, v) -> x.coldFor(v, 5)).takes(0, 8).takes(3, 2).beyond(-1, 4);
    Bound.of("coldFor s", (x, v) -> x.coldFor(0, v)).takes(0, 0).takes(99, Due.NONE).beyond(-1, 100);
    Bound.of("odds pane", (x, v) -> x.odds(v, 10, 0, 0)).takes(0, 13).takes(3, 17).beyond(-1, 4);
    Bound.of("odds s", (x, v) -> x.odds(0, v, 0, 0)).takes(0, 1).takes(99, 0).beyond(-1, 100);
    Bound.of("odds hour", (x, v) -> x.odds(0, 10, v, 0)).takes(0, 13).takes(23, 0).beyond(-1, 24);
    Bound.of("odds part", (x, v) -> x.odds(0, 10, 0, v)).takes(0, 13).takes(1, 41).beyond(-1, 2);
  }

  /** Promises 20, 21 and 23. */
  private static void thoughtOfHeirs() {
    Twins.Maker six = () -> Twins.crowd(2, 6);
    new Bound("best", six, FrostWills::best).takes(-1, 90).takes(0, 0).takes(5, 5).beyond(-2, 6);
    new Bound("share", six, FrostWills::share).takes(0, 90).takes(1, 0).beyond(-1, 2);
    new Bound("share of one", () -> Twins.crowd(1, 6), FrostWills::share).takes(0, 90).beyond(-1, 1);
    Bound.of("breath heir", (x, v) -> x.breath(v, 0, 0)).takes(0, 0).takes(2, 0).beyond(-1, 3);
    Bound.of("breath v", (x, v) -> x.breath(0, v, 0))
        .takes(0, 0).takes(99999, Due.NONE).beyond(-1, 100000);
    Bound.of("breath what", (x, v) -> x.breath(0, 0, v)).takes(0, 0).takes(1, 0).beyond(-1, 2);
  }

  /** Of pane 0 there are 11 left by COLD 32 to 35. */
  private static FrostWills withEleven() {
    FrostWills x = Twins.house();
    Due.row(x, 1, 16, 11);
    return x;
  }

  /** Promise 25. */
  private static void thoughtOfSheets() {
    Bound.of("fits sheet", withRow((x, v) -> x.fits(v, 0, 0), 11)).takes(0, 4).takes(3, 4).beyond(-1, 4);
    new Bound("fits hour", BoundsTest::withEleven, (x, v) -> x.fits(1, v, 0))
        .takes(0, 4).takes(23, 0).beyond(-1, 24);
    new Bound("fits what", BoundsTest::withEleven, (x, v) -> x.fits(1, 0, v))
        .takes(0, 4).takes(1, 32).beyond(-1, 2);
  }

  /** Promises 26 and 27; of voice(), that the TRACE stays. */
  private static void voices() {
    Bound.of("voice pane", (x, v) -> x.voice(v, 0, 7)).takes(0, 7).takes(3, 9).beyond(-1, 4);
    Bound.of("voice", (x, v) -> x.voice(0, v, 7)).takes(0, 7).takes(3, 1).beyond(-1, 4);
    Bound.of("body", FrostWills::body).takes(0, 71).takes(1, 11).takes(2, 70)
        .refuses(Due.NONE, -1, 3, 29, 30, LEAST, MOST);
  }

  private static FrostWills withRowOf(int n) {
    FrostWills x = Twins.house();
    x.sheet(1, 16, n);
    return x;
  }

  /** Promises 28, 29, 31 and 32. */
  private static void sheets() {
    Bound.of("sheet", (x, v) -> x.sheet(v, 8, 1)).takes(0, 1).takes(3, 1).beyond(-1, 4);
    Bound bits = Bound.of("sheet bits", (x, v) -> x.sheet(0, v, 1));
    for (int b = -1; b <= 33; b++) {
      if (b == 0 || b == 8 || b == 16 || b == 32) {
        bits.takes(b, 1);
      } else {
        bits.refuses(Due.BEYOND, b);
      }
    }
    bits.refuses(Due.BEYOND, -8, 64, 256 + 8, LEAST, MOST);
    for (int b = 8; b <= 32; b *= 2) {
      int of = b;
      Bound.of("sheet n of " + b, (x, v) -> x.sheet(0, of, v)).takes(0, 1).takes(24, 1)
          .refuses(Due.STATE, -1, LEAST).refuses(Due.BEYOND, 25, MOST);
    }
    Bound.of("sheet n of 0", (x, v) -> x.sheet(0, 0, v))
        .takes(0, 1).takes(-1, 1).takes(25, 1).takes(LEAST, 1).takes(MOST, 1);
    Bound.of("put sheet", (x, v) -> x.put(v, 0, 1)).takes(0, 1).takes(2, 1).beyond(-1, 4);
    Bound.of("put i of 3", (x, v) -> x.put(1, v, 1)).takes(0, 1).takes(2, 1).beyond(-1, 3);
    new Bound("put i of 24", () -> withRowOf(24), (x, v) -> x.put(1, v, 1))
        .takes(0, 1).takes(23, 1).beyond(-1, 24);
    new Bound("put i of none", () -> withRowOf(0), (x, v) -> x.put(1, v, 1)).beyond(-1, 0);
    Bound.of("worths", withRow(FrostWills::worths, 1, 2)).takes(0, 2).takes(3, 2).beyond(-1, 4);
    Bound.of("judge", withRow(FrostWills::judge, 9, 5)).takes(0, 2).takes(3, 2).beyond(-1, 4);
  }

  private static FrostWills withLikeSheets() {
    FrostWills x = Twins.house();
    for (int s = 0; s < 4; s++) {
      Due.row(x, s, 16, 10 * s, 10 * s + 1, 10 * s + 2);
    }
    return x;
  }

  private static Bound move(String name, Bound.Call call) {
    return new Bound("move " + name, BoundsTest::withLikeSheets, call);
  }

  /** Promise 30. */
  private static void moves() {
    move("sheet", (x, v) -> x.move(v, 0, 1, 0, 1)).takes(0, 1).takes(3, 1).beyond(-1, 4);
    move("other", (x, v) -> x.move(1, 0, v, 0, 1)).takes(0, 1).takes(3, 1).beyond(-1, 4);
    move("i", (x, v) -> x.move(1, v, 2, 0, 1)).takes(0, 1).takes(2, 1).beyond(-1, 3);
    move("j", (x, v) -> x.move(1, 0, 2, v, 1)).takes(0, 1).takes(2, 1).beyond(-1, 3);
    move("n", (x, v) -> x.move(1, 0, 2, 0, v)).takes(0, 0).takes(3, 3).beyond(-1, 4);
    move("n from 1 on", (x, v) -> x.move(1, 1, 2, 0, v)).takes(0, 0).takes(2, 2).beyond(-1, 3);
    move("n to 1 on", (x, v) -> x.move(1, 0, 2, 1, v)).takes(0, 0).takes(2, 2).beyond(-1, 3);
    move("i, n 0", (x, v) -> x.move(1, v, 2, 0, 0)).takes(0, 0).takes(3, 0).beyond(-1, 4);
    move("j, n 0", (x, v) -> x.move(1, 0, 2, v, 0)).takes(0, 0).takes(3, 0).beyond(-1, 4);
    move("i and n, whose sum wraps", (x, v) -> x.move(1, v, 2, 0, v)).beyond(-1, 2);
    move("j and n, whose sum wraps", (x, v) -> x.move(1, 0, 2, v, v)).beyond(-1, 2);
    move("within itself", (x, v) -> x.move(1, 0, 1, v, 2)).takes(0, 2).takes(1, 2).beyond(-1, 2);
  }

  /** Promises 37 and 38. */
  private static void whatIsTold() {
    Bound.of("count", FrostWills::count).takes(0, 4).takes(10, -5).beyond(-1, 11);
    Bound.of("told", FrostWills::told).takes(1, 0).takes(6, 0).beyond(0, 7).beyond(-1, 8);
  }

  /** Promises 14, 18, 26, 29 and 35: what may be any number is never refused. */
  private static void anyNumber() {
    for (int v : new int[] {LEAST, Due.PARTED, Due.BEYOND, Due.LOW, -1, 0, MOST}) {
      Bound.of("seed", FrostWills::seed).takes(v, -5);
      Bound.of("tell", FrostWills::tell).takes(v, 3);
      Bound.of("put v", (x, n) -> x.put(2, 1, n)).takes(v, 1);
      Bound.of("voice x", (x, n) -> x.voice(3, 0, n)).takes(v, 9);
      Bound.of("law a", (x, n) -> x.law(1, n, 0, 1)).takes(v, 3);
      Bound.of("law b", (x, n) -> x.law(1, 0, n, 1)).takes(v, 3);
      Bound.of("law c", (x, n) -> x.law(0, 8, n, 1)).takes(v, 5);
    }
  }
}
