import java.util.ArrayList;
import java.util.List;

/**
 * The document told a second time, in other ways than the class goes: texts as strings that are
 * split, faults by what may come next, rounds as lists of all orders, voices as Java's own super.
 */
final class Model {
  static final class Parted extends RuntimeException {
    private static final long serialVersionUID = 1L;
  }

  static final class Err extends RuntimeException {
    private static final long serialVersionUID = 1L;
    final int k;

    Err(int k) {
      super(null, null, false, false);
      this.k = k;
    }
  }

  static final String[] KINDS =
      {"PANE", "DOUBLE", "KITCHEN", "OILED", "ENTAIL", "LAMPED", "CRACKED"};

  static class Window implements Cloneable {
    int kind, m, facing, clean, floor, heir, worth;

    Window copy() {
      try {
        return (Window) clone();
      } catch (CloneNotSupportedException e) {
        throw new IllegalStateException(e);
      }
    }
  }

  // ---- all that an image keeps
  static final class All {
    List<Window> panes = new ArrayList<>();
    List<Integer> has = new ArrayList<>();
    List<Integer> waits = new ArrayList<>();
    StringBuilder tape = new StringBuilder();
    Node[] texts = new Node[2];
    int church, cold = 12, hour = 6, lamp, nights, z = 1;

    All copy() {
      All c = new All();
      for (Window w : panes) {
        c.panes.add(w.copy());
      }
      c.has.addAll(has);
      c.waits.addAll(waits);
      c.tape.append(tape);
      c.texts = texts.clone();
      c.church = church;
      c.cold = cold;
      c.hour = hour;
      c.lamp = lamp;
      c.nights = nights;
      c.z = z;
      return c;
    }
  }

  All a = new All();
  All kept;
  int images;
  int[] told = new int[7];
  int[][] sheets = new int[4][];
  int[] bits = new int[4];
  List<Integer> trace = new ArrayList<>();

  // ---- texts

  interface Node {
    int is(int[] names);
  }

  static boolean may(boolean part, char c, String names) {
    return part ? Character.isDigit(c) && c < 128 || names.indexOf(c) >= 0 || c == '!' || c == '('
        : "|&<=>+-*/%)".indexOf(c) >= 0;
  }

  /** Where no text goes on, by what stands open: '(' anew, 'c' one with a comparison, '!'. */
  static int fault(String text, String names) {
    StringBuilder open = new StringBuilder("(");
    boolean part = true;
    int digits = 0;
    for (int i = 0; i < text.length(); i++) {
      char c = text.charAt(i);
      if (digits > 0 && digits < 4 && c >= '0' && c <= '9') {
        digits++;
        continue;
      }
      if (!may(part, c, names)) {
        return i;
      }
      digits = 0;
      if (part) {
        if (c == '!' || c == '(') {
          if (open.length() == 6) {
            return i;
          }
          open.append(c);
          continue;
        }
        digits = c >= '0' && c <= '9' ? 1 : 0;
        part = false;
        shutNots(open);
        continue;
      }
      int last = open.length() - 1;
      if (c == ')') {
        if (last == 0) {
          return i;
        }
        open.setLength(last);
        shutNots(open);
        continue;
      }
      if ("<=>".indexOf(c) >= 0) {
        if (open.charAt(last) == 'c') {
          return i;
        }
        open.setCharAt(last, 'c');
      } else if (c == '&' || c == '|') {
        open.setCharAt(last, '(');
      }
      part = true;
    }
    return part || open.length() > 1 ? text.length() : -1;
  }

  static void shutNots(StringBuilder open) {
    while (open.charAt(open.length() - 1) == '!') {
      open.setLength(open.length() - 1);
    }
  }

  /** Of a text without a fault: split at the last of the signs that bind least. */
  static Node tree(String t, String names) {
    for (String signs : new String[] {"|", "&", "<=>", "+-", "*/%"}) {
      int depth = 0;
      for (int i = t.length() - 1; i > 0; i--) {
        char c = t.charAt(i);
        depth += c == ')' ? 1 : c == '(' ? -1 : 0;
        if (depth == 0 && signs.indexOf(c) >= 0) {
          return join(c, tree(t.substring(0, i), names), tree(t.substring(i + 1), names));
        }
      }
    }
    if (t.charAt(0) == '!') {
      Node of = tree(t.substring(1), names);
      return n -> of.is(n) == 0 ? 1 : 0;
    }
    if (t.charAt(0) == '(') {
      return tree(t.substring(1, t.length() - 1), names);
    }
    int name = names.indexOf(t.charAt(0));
    if (name >= 0) {
      return n -> n[name];
    }
    int number = Integer.parseInt(t);
    return n -> number;
  }

  static Node join(char c, Node l, Node r) {
    return n -> {
      int x = l.is(n);
      int y = r.is(n);
      boolean truth = c == '|' ? x != 0 || y != 0 : c == '&' ? x != 0 && y != 0
          : c == '<' ? x < y : c == '>' ? x > y : x == y;
      if ("|&<=>".indexOf(c) >= 0) {
        return truth ? 1 : 0;
      }
      if (c == '+' || c == '-' || c == '*') {
        return c == '+' ? x + y : c == '-' ? x - y : x * y;
      }
      long q = y == 0 ? 0 : (long) x / y;
      return y == 0 ? 0 : c == '/' ? (int) q : (int) (x - q * y);
    };
  }

  int took(int s, int f, int k) {
    return a.texts[0] == null ? 1 : clamp(a.texts[0].is(new int[] {s, f, k}), 1, 9);
  }

  int value(int r, int w, int h) {
    return clamp(a.texts[1] == null ? r * w : a.texts[1].is(new int[] {r, w, h}), 0, 9999);
  }

  static int clamp(int v, int lo, int hi) {
    return v < lo ? lo : v > hi ? hi : v;
  }

  // ---- panes

  int strokes(Window w, String kind, int cold) {
    switch (kind) {
      case "PANE": return cold / 4 + w.clean / 3;
      case "DOUBLE": return strokes(w, "PANE", cold) / 2;
      case "KITCHEN": return Math.max(0, strokes(w, "PANE", cold) - w.m);
      case "OILED": return cold < 12 ? 0 : strokes(w, "PANE", cold) / 3;
      case "ENTAIL": return Math.max(w.m % 4, strokes(w, "DOUBLE", cold));
      case "LAMPED": return a.lamp == 1 ? 0 : strokes(w, "KITCHEN", cold);
      default: return strokes(w, "PANE", cold) + cold % 3;
    }
  }

  int melts(Window w, String kind, int cold) {
    switch (kind) {
      case "PANE":
      case "OILED": return 1 + w.m / 5;
      case "DOUBLE": return Math.max(0, melts(w, "PANE", cold) - 1);
      case "KITCHEN": return melts(w, "PANE", cold) * 2;
      case "ENTAIL": return melts(w, "DOUBLE", cold) + cold % 2;
      case "LAMPED": return melts(w, "KITCHEN", cold);
      default: return melts(w, "PANE", cold) + w.m;
    }
  }

  int left(Window w, int hour, int cold) {
    int left = strokes(w, KINDS[w.kind], cold);
    int sun = new int[] {1000, 7, 10, 15}[w.facing];
    for (int h = sun; h < hour; h++) {
      left -= melts(w, KINDS[w.kind], cold);
    }
    return Math.max(0, left);
  }

  /** Of an order: by places, what each value is. */
  int[] values(List<Integer> order, int breathed) {
    int[] v = new int[order.size()];
    int hour = a.hour;
    for (int i = 0; i < v.length; i++) {
      int p = order.get(i);
      Window w = a.panes.get(p);
      int read = (breathed & 1 << p) != 0 ? 0 : left(w, hour, a.cold);
      v[i] = value(read, w.worth, w.heir);
      hour += took(read, w.floor, w.kind);
    }
    return v;
  }

  static int sum(int[] v) {
    int s = 0;
    for (int x : v) {
      s += x;
    }
    return s;
  }

  List<Integer> numbers() {
    List<Integer> l = new ArrayList<>();
    for (int i = 0; i < a.panes.size(); i++) {
      l.add(i);
    }
    return l;
  }

  int read(List<Integer> order) {
    int[] v = values(order, 0);
    for (int i = 0; i < v.length; i++) {
      Window w = a.panes.get(order.get(i));
      a.has.set(w.heir, Math.min(99999, a.has.get(w.heir) + v[i]));
      int all = value(strokes(w, KINDS[w.kind], a.cold), w.worth, w.heir);
      a.church = Math.min(99999, a.church + Math.max(0, all - v[i]));
    }
    a.nights++;
    return sum(v);
  }

  List<Integer> bestOrder() {
    List<List<Integer>> orders = new ArrayList<>();
    orders.add(new ArrayList<>());
    for (int place = 0; place < a.panes.size(); place++) {
      List<List<Integer>> longer = new ArrayList<>();
      for (List<Integer> o : orders) {
        for (int p : numbers()) {
          if (!o.contains(p)) {
            List<Integer> l = new ArrayList<>(o);
            l.add(p);
            longer.add(l);
          }
        }
      }
      orders = longer;
    }
    List<Integer> best = null;
    int most = -1;
    for (List<Integer> o : orders) {
      int s = sum(values(o, 0));
      if (s > most) {
        most = s;
        best = o;
      }
    }
    return best;
  }

  // ---- voices

  class V0 {
    int m, k;

    void began(int body) {
      if (trace.size() < 30) {
        trace.add(body);
      }
    }

    int ferns(int x) { began(10); return x + k; }

    int stars(int x) { began(11); return ferns(x) * 2; }

    int thaws(int x) { began(12); return stars(x) - m; }

    int parts(int x) {
      began(13);
      if (m == k) {
        throw new Parted();
      }
      return x / (m - k);
    }
  }

  class V1 extends V0 {
    @Override int ferns(int x) { began(20); return super.ferns(x) - 4; }

    @Override int parts(int x) { began(21); return super.parts(x) + stars(1); }
  }

  class V2 extends V0 {
    @Override int stars(int x) { began(30); return 0 - super.stars(x); }
  }

  class V3 extends V0 {
    @Override int thaws(int x) { began(40); return super.thaws(x / 2); }
  }

  class V4 extends V1 {
    @Override int ferns(int x) { began(50); return super.ferns(x) * 3; }

    @Override int thaws(int x) { began(51); return super.thaws(x) ^ k; }
  }

  class V5 extends V2 {
    @Override int stars(int x) { began(60); return super.stars(x + 1); }
  }

  class V6 extends V0 {
    @Override int ferns(int x) { began(70); return 9; }

    @Override int stars(int x) { began(71); return super.stars(x) + m; }
  }

  V0 speaker(int kind) {
    switch (kind) {
      case 0: return new V0();
      case 1: return new V1();
      case 2: return new V2();
      case 3: return new V3();
      case 4: return new V4();
      case 5: return new V5();
      default: return new V6();
    }
  }

  // ---- the acts

  static void in(int v, int lo, int hi) {
    if (v < lo || v > hi) {
      throw new Err(1);
    }
  }

  static void ask(boolean good, int k) {
    if (!good) {
      throw new Err(k);
    }
  }

  Window window(int p) {
    in(p, 0, a.panes.size() - 1);
    return a.panes.get(p);
  }

  int[] row(int s) {
    in(s, 0, 3);
    ask(sheets[s] != null, 2);
    return sheets[s];
  }

  void someHeir(int h) {
    in(h, 0, a.has.size() - 1);
  }

  /** Answers an act by its name; an error is counted. */
  int act(String name, long[] g) {
    int[] v = new int[g.length];
    for (int i = 0; i < v.length; i++) {
      v[i] = (int) g[i];
    }
    try {
      return name.equals("feed") ? feed(g[0], v[1]) : act(name, v);
    } catch (Parted p) {
      told[6]++;
      return Due.PARTED;
    } catch (Err e) {
      told[e.k]++;
      return Due.LOW - e.k;
    }
  }

  int feed(long word, int n) {
    in(n, 1, 8);
    ask(a.tape.length() + n <= 60, 4);
    for (int i = 0; i < n; i++) {
      a.tape.append((char) (word & 255));
      word >>= 8;
    }
    return a.tape.length();
  }

  int act(String name, int[] v) {
    switch (name) {
      case "heir": ask(a.has.size() < 6, 4); a.has.add(0); return a.has.size() - 1;
      case "pane": return pane(v);
      case "paneIs": return paneIs(window(v[0]), v[1]);
      case "become": return become(window(v[0]), v[1]);
      case "as": return as(window(v[0]), v[1]);
      case "wipe": {
        Window w = window(v[0]); in(v[1], 0, 9); int was = w.clean; w.clean = v[1]; return was;
      }
      case "names": {
        Window w = window(v[0]); someHeir(v[1]); int was = w.heir; w.heir = v[1]; return was;
      }
      case "has": in(v[0], -1, a.has.size() - 1); return v[0] < 0 ? a.church : a.has.get(v[0]);
      case "set": return set(v[0], v[1]);
      case "text": return text(v[0]);
      case "untell": {
        in(v[0], 0, 1); boolean was = a.texts[v[0]] != null; a.texts[v[0]] = null; return was ? 1 : 0;
      }
      case "law": in(v[0], 0, 1); return v[0] == 0 ? took(v[1], v[2], v[3]) : value(v[1], v[2], v[3]);
      case "round": return sum(values(order(v[0]), 0));
      case "reading": {
        List<Integer> o = order(v[0]); ask(a.nights != 9999, 3); return read(o);
      }
      case "loose": return loose(v[0]);
      case "seed": { int was = a.z; a.z = v[0]; return was; }
      default: return thought(name, v);
    }
  }

  int pane(int[] v) {
    in(v[0], 0, 69);
    in(v[1], 0, 39);
    in(v[2], 0, 9);
    someHeir(v[3]);
    in(v[4], 0, 99);
    ask(a.panes.size() < 8, 4);
    Window w = new Window();
    w.kind = v[0] / 10;
    w.m = v[0] % 10;
    w.facing = v[1] / 10;
    w.clean = v[1] % 10;
    w.floor = v[2];
    w.heir = v[3];
    w.worth = v[4];
    a.panes.add(w);
    return a.panes.size() - 1;
  }

  int paneIs(Window w, int what) {
    in(what, 0, 7);
    return new int[] {w.kind, w.m, w.facing, w.clean, w.floor, w.heir, w.worth,
        strokes(w, KINDS[w.kind], a.cold)}[what];
  }

  int become(Window w, int km) {
    in(km, 0, 69);
    int was = w.kind;
    w.kind = km / 10;
    w.m = km % 10;
    return was;
  }

  int as(Window w, int kind) {
    in(kind, 0, 6);
    Class<?> wanted = speaker(kind).getClass();
    ask(wanted.isInstance(speaker(w.kind)), 5);
    return w.m;
  }

  int set(int what, int v) {
    in(what, 0, 2);
    in(v, 0, new int[] {40, 23, 1}[what]);
    int was = what == 0 ? a.cold : what == 1 ? a.hour : a.lamp;
    a.cold = what == 0 ? v : a.cold;
    a.hour = what == 1 ? v : a.hour;
    a.lamp = what == 2 ? v : a.lamp;
    return was;
  }

  int text(int use) {
    in(use, 0, 1);
    String names = use == 0 ? "sfk" : "rwh";
    String t = a.tape.toString();
    a.tape.setLength(0);
    int fault = fault(t, names);
    if (fault >= 0) {
      return -10 - fault;
    }
    a.texts[use] = tree(t, names);
    return 1;
  }

  List<Integer> order(int sheet) {
    List<Integer> o = new ArrayList<>();
    for (int n : row(sheet)) {
      o.add(n);
    }
    List<Integer> sorted = new ArrayList<>(o);
    sorted.sort(null);
    ask(sorted.equals(numbers()), 2);
    return o;
  }

  int draw() {
    a.z = a.z * 1103515245 + 12345;
    return a.z >>> 8;
  }

  int loose(int n) {
    in(n, 1, 30);
    ask(a.nights + n <= 9999, 3);
    for (int i = 0; i < n; i++) {
      a.cold = draw() % 41;
      a.lamp = draw() % 2;
      read(numbers());
    }
    return a.church;
  }

  int thought(String name, int[] v) {
    switch (name) {
      case "left": {
        Window w = window(v[0]); in(v[1], 0, 23); return left(w, v[1], a.cold);
      }
      case "best": return best(v[0]);
      case "share": return share(v[0]);
      case "coldFor": {
        Window w = window(v[0]);
        in(v[1], 0, 99);
        int cold = 0;
        while (cold <= 40 && strokes(w, KINDS[w.kind], cold) < v[1]) {
          cold++;
        }
        ask(cold <= 40, 2);
        return cold;
      }
      case "breath": return breath(v[0], v[1], v[2]);
      case "odds": return odds(window(v[0]), v);
      case "fits": return fits(v);
      default: return rest(name, v);
    }
  }

  int best(int what) {
    in(what, -1, 5);
    ask(a.panes.size() <= 6, 3);
    ask(what < a.panes.size(), 2);
    List<Integer> o = bestOrder();
    return what < 0 ? sum(values(o, 0)) : o.get(what);
  }

  int share(int heir) {
    someHeir(heir);
    ask(a.panes.size() <= 6, 3);
    return gain(bestOrder(), heir, 0);
  }

  int gain(List<Integer> order, int heir, int breathed) {
    int[] values = values(order, breathed);
    int gain = 0;
    for (int i = 0; i < values.length; i++) {
      gain += a.panes.get(order.get(i)).heir == heir ? values[i] : 0;
    }
    return gain;
  }

  int breath(int heir, int v, int what) {
    someHeir(heir);
    in(v, 0, 99999);
    in(what, 0, 1);
    int found = -1;
    for (int set = (1 << a.panes.size()) - 1; set >= 0; set--) {
      if (gain(numbers(), heir, set) >= v
          && (found < 0 || Integer.bitCount(set) <= Integer.bitCount(found))) {
        found = set;
      }
    }
    ask(found >= 0, 2);
    return what == 1 ? found : Integer.bitCount(found);
  }

  int odds(Window w, int[] v) {
    in(v[1], 0, 99);
    in(v[2], 0, 23);
    in(v[3], 0, 1);
    int above = 0;
    int below = 41;
    for (int cold = 0; cold <= 40; cold++) {
      above += left(w, v[2], cold) >= v[1] ? 1 : 0;
    }
    for (int d = 41; d > 1; d--) {
      if (above % d == 0 && below % d == 0) {
        above /= d;
        below /= d;
      }
    }
    return v[3] == 0 ? above : below;
  }

  int fits(int[] v) {
    in(v[0], 0, 3);
    in(v[1], 0, 23);
    in(v[2], 0, 1);
    int[] row = row(v[0]);
    List<Integer> colds = new ArrayList<>();
    for (int cold = 0; cold <= 40; cold++) {
      boolean so = row.length <= a.panes.size();
      for (int i = 0; so && i < row.length; i++) {
        so = left(a.panes.get(i), v[1], cold) == row[i];
      }
      if (so) {
        colds.add(cold);
      }
    }
    if (v[2] == 0) {
      return colds.size();
    }
    ask(!colds.isEmpty(), 2);
    return colds.get(0);
  }

  int rest(String name, int[] v) {
    switch (name) {
      case "voice": return voice(v);
      case "body": ask(v[0] >= 0 && v[0] < trace.size(), 2); return trace.get(v[0]);
      case "sheet": return sheet(v[0], v[1], v[2]);
      case "put": {
        int[] row = row(v[0]);
        in(v[1], 0, row.length - 1);
        row[v[1]] = bits[v[0]] == 8 ? v[2] & 255 : bits[v[0]] == 16 ? (char) v[2] : v[2];
        return 1;
      }
      case "move": return move(v);
      case "worths": {
        int[] row = row(v[0]);
        int i = 0;
        while (i < row.length && i < a.panes.size() && row[i] >= 0 && row[i] <= 99) {
          a.panes.get(i).worth = row[i];
          i++;
        }
        return i;
      }
      case "judge": {
        int[] row = row(v[0]);
        int i = 0;
        while (i < row.length && i < a.panes.size()
            && row[i] == left(a.panes.get(i), a.hour, a.cold)) {
          i++;
        }
        return i;
      }
      case "image": kept = a.copy(); return ++images;
      case "restore": ask(kept != null, 2); a = kept.copy(); return a.nights;
      case "tell": ask(a.waits.size() < 24, 4); a.waits.add(v[0]); return a.waits.size();
      case "check": {
        List<Integer> waits = a.waits;
        a.waits = new ArrayList<>();
        for (int i = 0; i < waits.size(); i++) {
          if (i >= a.has.size() || !a.has.get(i).equals(waits.get(i))) {
            return i + 1;
          }
        }
        return 0;
      }
      case "count": return count(v[0]);
      case "told": in(v[0], 1, 6); return told[v[0]];
      default: throw new IllegalStateException(name);
    }
  }

  int voice(int[] v) {
    Window w = window(v[0]);
    in(v[1], 0, 3);
    trace.clear();
    V0 s = speaker(w.kind);
    s.m = w.m;
    s.k = v[0];
    return v[1] == 0 ? s.ferns(v[2]) : v[1] == 1 ? s.stars(v[2])
        : v[1] == 2 ? s.thaws(v[2]) : s.parts(v[2]);
  }

  int sheet(int s, int b, int n) {
    in(s, 0, 3);
    ask(b == 0 || b == 8 || b == 16 || b == 32, 1);
    if (b != 0) {
      ask(n >= 0, 3);
      in(n, 0, 24);
    }
    bits[s] = b;
    sheets[s] = b == 0 ? null : new int[n];
    return 1;
  }

  int move(int[] v) {
    in(v[0], 0, 3);
    in(v[2], 0, 3);
    int[] from = row(v[0]);
    int[] to = row(v[2]);
    ask(bits[v[0]] == bits[v[2]], 5);
    long n = v[4];
    ask(n >= 0 && v[1] >= 0 && v[3] >= 0 && v[1] + n <= from.length && v[3] + n <= to.length, 1);
    int[] were = from.clone();
    for (int i = 0; i < n; i++) {
      to[v[3] + i] = were[v[1] + i];
    }
    return v[4];
  }

  int count(int what) {
    in(what, 0, 10);
    return new int[] {a.panes.size(), a.has.size(), a.cold, a.hour, a.lamp, a.nights, a.church,
        a.tape.length(), a.waits.size(), trace.size(), a.z}[what];
  }
}
