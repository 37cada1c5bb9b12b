import java.lang.reflect.InvocationTargetException;
import java.lang.reflect.Method;
import java.lang.reflect.Modifier;
import java.util.Arrays;
import java.util.Map;
import java.util.Random;
import java.util.TreeMap;

/** All promises: long runs of drawn calls, each answer against that of the Model. */
public final class RandomRunsTest {
  private static final int RUNS = 1500;
  private static final int CALLS = 512;
  private static final int[] ODD = {
    Integer.MIN_VALUE, Integer.MIN_VALUE + 1, Integer.MAX_VALUE, -1000000001, -1, 100, 65536, -256, 41
  };
  private static final String[] PIECES = {
    "s", "f", "k", "r", "w", "h", "1", "2", "0", "7", "30", "9999", "+", "-", "*", "/", "%", "<",
    "=", ">", "&", "|", "!", "(", ")", "(", ")"
  };

  private static final String[][] USEFUL = {
    {"s", "s/2+f", "9-s", "(s>4)*8+k", "s%3*4", "f+1", "s=0|(s>9)*7+!f"},
    {"r*w+h", "(r=0)*w+r", "r*w*(r<5)", "(r>3)*9999", "99-r*w%50", "w*w*r+h*100", "(r%2=0)*w"}
  };

  private final Random random;
  private FrostWills x;
  private Model model;
  private final StringBuilder calls = new StringBuilder();

  private RandomRunsTest(long seed) {
    random = new Random(seed);
  }

  private int odd() {
    return random.nextInt(3) == 0 ? random.nextInt() : ODD[random.nextInt(ODD.length)];
  }

  /** 0 .. n - 1 mostly, at times one beyond, seldom anything. */
  private int upTo(int n) {
    int which = random.nextInt(60);
    if (which == 0) {
      return odd();
    }
    return which <= 2 ? (random.nextBoolean() ? -1 : n) : random.nextInt(Math.max(1, n));
  }

  private int somePane() {
    return upTo(model.a.panes.size());
  }

  private int someHeir() {
    return upTo(model.a.has.size());
  }

  private long[] argumentsOf(String act) {
    switch (act) {
      case "pane": return of(upTo(70), upTo(40), upTo(10), someHeir(), upTo(100));
      case "paneIs": return of(somePane(), upTo(8));
      case "become": return of(somePane(), upTo(70));
      case "as": return of(somePane(), upTo(7));
      case "wipe": return of(somePane(), upTo(10));
      case "names": return of(somePane(), someHeir());
      case "has": return of(someHeir() - random.nextInt(2));
      case "set": return someSetting();
      case "feed": return new long[] {random.nextLong(), 1 + upTo(8)};
      case "text": case "untell": return of(upTo(2));
      case "law": return of(upTo(2), someName(), someName(), someName());
      case "round": case "reading": case "worths": case "judge": return of(upTo(4));
      case "loose": return of(1 + upTo(30));
      case "left": return of(somePane(), upTo(24));
      case "best": return of(upTo(7) - 1);
      case "share": return of(someHeir());
      case "coldFor": return of(somePane(), random.nextInt(4) == 0 ? upTo(100) : upTo(16));
      case "breath": return someWish();
      case "odds": return of(somePane(), random.nextInt(4) == 0 ? upTo(100) : upTo(16), upTo(24), upTo(2));
      case "fits": return of(upTo(4), upTo(24), upTo(2));
      case "voice": return of(somePane(), upTo(4), random.nextInt(3) == 0 ? odd() : random.nextInt(41) - 20);
      case "body": return of(upTo(7));
      case "sheet": return of(upTo(4), someBits(), random.nextBoolean() ? upTo(9) : upTo(26));
      case "put": return of(upTo(4), upTo(random.nextBoolean() ? 8 : 25), random.nextInt(4) == 0 ? odd() : random.nextInt(16));
      case "move": return of(upTo(4), upTo(6), upTo(4), upTo(6), upTo(5));
      case "tell": return of(random.nextInt(10) - 3);
      case "count": return of(upTo(11));
      case "told": return of(1 + upTo(6));
      case "seed": return of(random.nextInt());
      default: return of();
    }
  }

  private static long[] of(int... v) {
    return Arrays.stream(v).asLongStream().toArray();
  }

  private long[] someSetting() {
    int what = upTo(3);
    return of(what, upTo(what == 0 ? 41 : what == 1 ? 24 : 2));
  }

  private int someName() {
    return random.nextInt(3) == 0 ? odd() : random.nextInt(40) - 8;
  }

  private int someBits() {
    int[] bits = {8, 8, 16, 16, 32, 32, 32, 0, 7};
    return random.nextInt(30) == 0 ? odd() : bits[random.nextInt(bits.length)];
  }

  /** What some set would bring mostly, or one more. */
  private long[] someWish() {
    int heir = someHeir();
    int n = model.a.panes.size();
    if (random.nextInt(4) == 0 || n == 0) {
      return of(heir, upTo(random.nextBoolean() ? 100000 : 600), upTo(2));
    }
    if (random.nextInt(8) != 0) {
      heir = model.a.panes.get(random.nextInt(n)).heir;
    }
    int gain = model.gain(model.numbers(), heir, random.nextInt(1 << n));
    return of(heir, gain + random.nextInt(2), upTo(2));
  }

  private int call(Method method, long[] g) {
    Object[] arguments = new Object[g.length];
    Class<?>[] types = method.getParameterTypes();
    for (int i = 0; i < g.length; i++) {
      arguments[i] = types[i] == long.class ? (Object) g[i] : (Object) (int) g[i];
    }
    try {
      return (int) (Integer) method.invoke(x, arguments);
    } catch (IllegalAccessException | InvocationTargetException e) {
      throw new IllegalStateException(calls.toString(), e);
    }
  }

  private boolean same(Method method, long... g) {
    int want = model.act(method.getName(), g);
    calls.append(method.getName()).append(Arrays.toString(g)).append(' ').append(want).append('\n');
    int got = call(method, g);
    if (got != want) {
      Due.due(method.getName() + Arrays.toString(g), got, want);
      System.out.println("after\n" + calls);
      return false;
    }
    Due.due(method.getName(), got, want);
    return true;
  }

  /** A text by drawn pieces, mostly a whole one. */
  private String someText(int use, int room) {
    StringBuilder t = new StringBuilder();
    int which = random.nextInt(8);
    if (which < 3) {
      t.append(USEFUL[use][random.nextInt(USEFUL[use].length)]);
    } else if (which == 3) {
      for (int i = random.nextInt(8); i >= 0; i--) {
        t.append(PIECES[random.nextInt(PIECES.length)]);
      }
    } else {
      part(t, use == 0 ? "sfk" : "rwh", 0, 3);
    }
    if (random.nextInt(8) == 0) {
      t.insert(random.nextInt(t.length() + 1), PIECES[random.nextInt(PIECES.length)]);
    }
    return t.substring(0, Math.min(t.length(), room));
  }

  private void part(StringBuilder t, String names, int open, int depth) {
    int which = random.nextInt(10);
    if (depth > 0 && which < 5) {
      part(t, names, open, depth - 1);
      t.append("|&<=>+-*/%".charAt(random.nextInt(10)));
      part(t, names, open, depth - 1);
    } else if (depth > 0 && open < 6 && which < 7) {
      t.append('(');
      part(t, names, open + 1, depth - random.nextInt(2));
      t.append(')');
    } else if (open < 6 && which < 8) {
      t.append('!');
      part(t, names, open + 1, 0);
    } else if (which == 8) {
      t.append(random.nextInt(random.nextBoolean() ? 12 : 10500));
    } else {
      t.append(names.charAt(random.nextInt(3)));
    }
  }

  private boolean run(Map<String, Method> acts) {
    x = new FrostWills();
    model = new Model();
    calls.setLength(0);
    String[] names = acts.keySet().toArray(new String[0]);
    int done = 0;
    int panes = random.nextInt(9);
    for (int i = 0; i < panes * 2; i++) {
      done++;
      if (!same(acts.get(i < panes ? "heir" : "pane"), argumentsOf(i < panes ? "heir" : "pane"))) {
        return false;
      }
    }
    while (done < CALLS - 12) {
      int which = random.nextInt(40);
      if (which == 0) {
        int use = random.nextInt(2);
        String text = someText(use, 60 - model.a.tape.length());
        for (int i = 0; i < text.length(); i += 8) {
          int n = Math.min(8, text.length() - i);
          long word = random.nextLong();
          for (int b = n - 1; b >= 0; b--) {
            word = word << 8 | text.charAt(i + b);
          }
          done++;
          if (!same(acts.get("feed"), word, n)) {
            return false;
          }
        }
        done++;
        if (!same(acts.get("text"), use)) {
          return false;
        }
        continue;
      }
      if (which == 1) {
        done += sheetOfUse(acts);
        continue;
      }
      String act = names[random.nextInt(names.length)];
      // Six panes at most are for the best round: it should not be refused too often.
      if (model.a.panes.size() == 6 && act.equals("pane") && random.nextInt(8) != 0) {
        continue;
      }
      if ((act.equals("feed") || act.equals("restore")) && random.nextInt(3) != 0) {
        continue;
      }
      done++;
      if (!same(acts.get(act), argumentsOf(act))) {
        return false;
      }
    }
    return true;
  }

  /** A sheet that is a round, or what is left of panes. */
  private int sheetOfUse(Map<String, Method> acts) {
    int n = model.a.panes.size();
    int sheet = random.nextInt(4);
    int hour = random.nextInt(24);
    int cold = random.nextInt(41);
    boolean left = random.nextBoolean();
    java.util.List<Integer> order = model.numbers();
    java.util.Collections.shuffle(order, random);
    same(acts.get("sheet"), sheet, 8 << random.nextInt(3), n);
    for (int i = 0; i < n; i++) {
      int v = left ? model.left(model.a.panes.get(i), hour, cold) : order.get(i);
      same(acts.get("put"), sheet, i, v);
    }
    if (left) {
      same(acts.get("fits"), sheet, hour, 0);
      same(acts.get("fits"), sheet, hour, 1);
      same(acts.get("judge"), sheet);
    } else {
      same(acts.get("round"), sheet);
      same(acts.get("reading"), sheet);
    }
    return n + 4;
  }

  public static void main(String[] args) {
    Map<String, Method> acts = new TreeMap<>();
    for (Method m : FrostWills.class.getDeclaredMethods()) {
      if (Modifier.isPublic(m.getModifiers())) {
        acts.put(m.getName(), m);
      }
    }
    Due.due("acts", acts.size(), 37);
    long from = args.length > 0 ? Long.parseLong(args[0]) : 1;
    int runs = args.length > 1 ? Integer.parseInt(args[1]) : RUNS;
    for (int i = 0; i < runs; i++) {
      if (!new RandomRunsTest(from + i).run(acts)) {
        break;
      }
    }
    Due.end("RandomRunsTest");
  }
}
