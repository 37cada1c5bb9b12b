import java.util.ArrayList;
import java.util.List;

/** Two objects with the same calls behind them: what one more call changed shows where they differ. */
final class Twins {
  interface Maker {
    FrostWills make();
  }

  interface Act {
    int on(FrostWills x);
  }

  private Twins() {}

  /** The act answers this ERROR, which told() counts, and nothing else is changed. */
  static void refused(String call, Maker maker, Act act, int error) {
    FrostWills asked = maker.make();
    FrostWills unasked = maker.make();
    Due.due(call, act.on(asked), error);
    same(call, asked, unasked, Due.LOW - error);
  }

  /** The act answers this, which is no ERROR, and nothing is changed. */
  static void onlyThought(String call, Maker maker, Act act, int want) {
    FrostWills asked = maker.make();
    FrostWills unasked = maker.make();
    Due.due(call, act.on(asked), want);
    same(call, asked, unasked, 0);
  }

  private static void same(String call, FrostWills asked, FrostWills unasked, int counted) {
    for (int k = 1; k <= 6; k++) {
      Due.due(call + ", then told " + k, asked.told(k), unasked.told(k) + (k == counted ? 1 : 0));
    }
    List<String> got = seen(asked);
    List<String> want = seen(unasked);
    Due.due(call + ", then how much there is to see", got.size(), want.size());
    for (int i = 0; i < Math.min(got.size(), want.size()); i++) {
      if (!got.get(i).equals(want.get(i))) {
        Due.due(call + " changed " + want.get(i) + " to " + got.get(i), 1, 0);
        return;
      }
    }
  }

  /** All that calls can tell of an object; it is of no use for more after this. */
  private static List<String> seen(FrostWills x) {
    List<String> seen = new ArrayList<>();
    plain(x, seen);
    for (int s = 0; s < 4; s++) {
      sheet(x, s, seen);
    }
    seen.add("restore " + x.restore());
    plain(x, seen);
    seen.add("image " + x.image());
    return seen;
  }

  private static void plain(FrostWills x, List<String> seen) {
    for (int what = 0; what <= 10; what++) {
      seen.add("count " + what + " " + x.count(what));
    }
    for (int i = 0; i < x.count(9); i++) {
      seen.add("body " + i + " " + x.body(i));
    }
    for (int pane = 0; pane < x.count(0); pane++) {
      for (int what = 0; what <= 7; what++) {
        seen.add("paneIs " + pane + " " + what + " " + x.paneIs(pane, what));
      }
    }
    for (int heir = -1; heir < x.count(1); heir++) {
      seen.add("has " + heir + " " + x.has(heir));
    }
    seen.add("check " + x.check());
    seen.add("law 0 " + x.law(0, 3, 2, 1) + ", law 1 " + x.law(1, 11, 12, 13));
    seen.add("text " + x.text(0) + ", then law 0 " + x.law(0, 3, 2, 1));
    seen.add("untell " + x.untell(0) + x.untell(1));
  }

  /** Its numbers as worths, as far as there are panes; how many there are; how many bits they have. */
  private static void sheet(FrostWills x, int s, List<String> seen) {
    int many = x.worths(s);
    seen.add("sheet " + s + " worths " + many);
    if (many < Due.LOW) {
      return;
    }
    for (int i = 0; i < many; i++) {
      seen.add("sheet " + s + " number " + i + " " + x.paneIs(i, 6));
    }
    int size = 0;
    while (size < 25 && x.put(s, size, 7) == 1) {
      size++;
    }
    seen.add("sheet " + s + " of " + size);
    if (size > 0) {
      x.put(s, 0, 256 + 7);
      int eight = x.worths(s);
      x.put(s, 0, 65536 + 7);
      seen.add("sheet " + s + " bits " + eight + " " + x.worths(s));
    }
  }

  /**
   * Some of all: 3 heirs, 4 panes of worth 5, 9, 7, 2, both texts, a tape, numbers that wait, a
   * trace, sheets 0 to 2 of 8, 16, 32 bits (sheet 0 is a round), sheet 3 missing, an image of less.
   */
  static FrostWills house() {
    FrostWills x = new FrostWills();
    x.heir();
    x.heir();
    x.pane(5, 19, 1, 0, 5);
    x.pane(12, 26, 2, 1, 9);
    Due.tell(x, 0, "s%3+f");
    Due.tell(x, 1, "r*w+h");
    x.set(0, 20);
    x.set(1, 5);
    x.set(2, 1);
    x.seed(7);
    Due.row(x, 0, 8, 0, 1);
    x.reading(0);
    x.tell(x.has(0));
    Due.write(x, "2+1");
    x.image();
    x.text(0);
    x.check();
    more(x);
    return x;
  }

  private static void more(FrostWills x) {
    x.heir();
    x.pane(47, 33, 3, 2, 7);
    x.pane(64, 9, 4, 1, 2);
    Due.tell(x, 0, "s/2+k");
    Due.tell(x, 1, "r*w+h*3");
    x.set(0, 33);
    x.set(1, 8);
    x.set(2, 0);
    Due.row(x, 0, 8, 3, 1, 0, 2);
    Due.row(x, 1, 16, 11, 12, 13);
    Due.row(x, 2, 32, 21, 22);
    x.reading(0);
    x.seed(-5);
    x.tell(x.has(0));
    x.tell(x.has(1));
    Due.write(x, "4+1");
    x.voice(3, 1, 4);
  }

  /** As many heirs and panes; pane i is north, of worth i, for heir 0; sheet 0 is the round. */
  static FrostWills crowd(int heirs, int panes) {
    FrostWills x = new FrostWills();
    for (int i = 0; i < heirs; i++) {
      x.heir();
    }
    x.sheet(0, 8, panes);
    for (int i = 0; i < panes; i++) {
      x.pane(0, 9, 0, 0, i);
      x.put(0, i, i);
    }
    return x;
  }

  /** After so many nights of one pane and one heir; sheet 0 is the round. */
  static FrostWills late(int nights) {
    FrostWills x = crowd(1, 1);
    // An object is good for 512 calls: 334 of them are spent here.
    for (int night = 0; night < nights; night += 30) {
      x.loose(Math.min(30, nights - night));
    }
    return x;
  }
}
