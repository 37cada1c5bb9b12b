import java.util.Arrays;

/** The wills that frost writes on windows: ../shared/DOC.md tells what every call answers. */
public final class FrostWills {
  private static final int LOW = -1000000000;
  private static final int BEYOND = 1;
  private static final int NONE = 2;
  private static final int STATE = 3;
  private static final int FULL = 4;
  private static final int UNLIKE = 5;
  private static final int PARTED = 6;

  private static final int MOST_HEIRS = 6;
  private static final int MOST_PANES = 8;
  private static final int MOST_THOUGHT = 6;
  private static final int MOST_HELD = 99999;
  private static final int MOST_VALUE = 9999;
  private static final int MOST_NIGHTS = 9999;
  private static final int MOST_COLD = 40;
  private static final int COLDS = 41;
  private static final int LAST_HOUR = 23;
  private static final int MOST_STROKES = 99;
  private static final int MOST_WORTH = 99;
  private static final int MOST_BYTES = 60;
  private static final int MOST_OPEN = 5;
  private static final int MOST_WAITING = 24;
  private static final int MOST_TRACED = 30;
  private static final int MOST_NUMBERS = 24;
  private static final int SHEETS = 4;

  private static final int DOUBLE = 1;
  private static final int KITCHEN = 2;
  private static final int OILED = 3;
  private static final int ENTAIL = 4;
  private static final int LAMPED = 5;
  private static final int CRACKED = 6;
  private static final int KINDS = 7;
  private static final int[] KIND_ABOVE = {-1, 0, 0, 0, 1, 2, 0};

  private static final int FERNS = 0;
  private static final int STARS = 1;
  private static final int THAWS = 2;
  private static final int PARTS = 3;
  private static final int VOICES = 4;
  // A row a KIND, a column a VOICE; 0 where the KIND above speaks.
  private static final int[] BODIES = {
    10, 11, 12, 13,
    20, 0, 0, 21,
    0, 30, 0, 0,
    0, 0, 40, 0,
    50, 0, 51, 0,
    0, 60, 0, 0,
    70, 71, 0, 0
  };

  private final House now;
  private final House kept;
  private final Rounds rounds;
  private final Reader reader;
  private final Speaker speaker;
  private final Sheet[] sheets;
  private final int[] errors;
  private int images;

  public FrostWills() {
    now = new House();
    kept = new House();
    rounds = new Rounds();
    reader = new Reader();
    speaker = new Speaker();
    sheets = new Sheet[SHEETS];
    for (int i = 0; i < SHEETS; i++) {
      sheets[i] = new Sheet();
    }
    errors = new int[PARTED + 1];
    images = 0;
  }

  private int error(int k) {
    if (k >= 0 && k < errors.length) {
      errors[k]++;
    }
    return LOW - k;
  }

  private static boolean within(int v, int least, int most) {
    return v >= least && v <= most;
  }

  private static int held(int v, int least, int most) {
    return Math.max(least, Math.min(most, v));
  }

  private static int kindAbove(int kind) {
    return kind >= 0 && kind < KIND_ABOVE.length ? KIND_ABOVE[kind] : -1;
  }

  private static boolean isUnder(int kind, int wanted) {
    int at = kind;
    for (int step = 0; step < KINDS && at >= 0; step++) {
      if (at == wanted) {
        return true;
      }
      at = kindAbove(at);
    }
    return false;
  }

  private Sheet sheetAt(int i) {
    return i >= 0 && i < sheets.length ? sheets[i] : null;
  }

  // ---- panes, heirs

  public int heir() {
    if (now.heirs >= MOST_HEIRS) {
      return error(FULL);
    }
    now.heirs++;
    return now.heirs - 1;
  }

  public int pane(int km, int fc, int floor, int heir, int worth) {
    if (!within(km, 0, 10 * KINDS - 1) || !within(fc, 0, 39) || !within(floor, 0, 9)) {
      return error(BEYOND);
    }
    if (!now.hasHeir(heir) || !within(worth, 0, MOST_WORTH)) {
      return error(BEYOND);
    }
    Pane p = now.addPane();
    if (p == null) {
      return error(FULL);
    }
    p.kind = km / 10;
    p.m = km % 10;
    p.facing = fc / 10;
    p.clean = fc % 10;
    p.floor = floor;
    p.heirNumber = heir;
    p.worth = worth;
    return now.paneCount - 1;
  }

  public int paneIs(int pane, int what) {
    Pane p = now.paneAt(pane);
    if (p == null) {
      return error(BEYOND);
    }
    switch (what) {
      case 0: return p.kind;
      case 1: return p.m;
      case 2: return p.facing;
      case 3: return p.clean;
      case 4: return p.floor;
      case 5: return p.heirNumber;
      case 6: return p.worth;
      case 7: return p.strokesBy(now.cold, now.lamp);
      default: return error(BEYOND);
    }
  }

  public int become(int pane, int km) {
    Pane p = now.paneAt(pane);
    if (p == null || !within(km, 0, 10 * KINDS - 1)) {
      return error(BEYOND);
    }
    int was = p.kind;
    p.kind = km / 10;
    p.m = km % 10;
    return was;
  }

  public int as(int pane, int kind) {
    Pane p = now.paneAt(pane);
    if (p == null || !within(kind, 0, KINDS - 1)) {
      return error(BEYOND);
    }
    return isUnder(p.kind, kind) ? p.m : error(UNLIKE);
  }

  public int wipe(int pane, int clean) {
    Pane p = now.paneAt(pane);
    if (p == null || !within(clean, 0, 9)) {
      return error(BEYOND);
    }
    int was = p.clean;
    p.clean = clean;
    return was;
  }

  public int names(int pane, int heir) {
    Pane p = now.paneAt(pane);
    if (p == null || !now.hasHeir(heir)) {
      return error(BEYOND);
    }
    int was = p.heirNumber;
    p.heirNumber = heir;
    return was;
  }

  public int has(int heir) {
    if (heir == -1) {
      return now.church;
    }
    return now.hasHeir(heir) ? now.purse(heir) : error(BEYOND);
  }

  public int set(int what, int v) {
    int was = 0;
    if (what == 0 && within(v, 0, MOST_COLD)) {
      was = now.cold;
      now.cold = v;
    } else if (what == 1 && within(v, 0, LAST_HOUR)) {
      was = now.hour;
      now.hour = v;
    } else if (what == 2 && within(v, 0, 1)) {
      was = now.lamp;
      now.lamp = v;
    } else {
      return error(BEYOND);
    }
    return was;
  }

  // ---- texts

  public int feed(long word, int n) {
    if (!within(n, 1, 8)) {
      return error(BEYOND);
    }
    if (now.tapeCount + n > MOST_BYTES) {
      return error(FULL);
    }
    for (int i = 0; i < n; i++) {
      now.addByte((int) (word >>> (8 * i)) & 255);
    }
    return now.tapeCount;
  }

  public int text(int use) {
    Text there = now.textOf(use);
    if (there == null) {
      return error(BEYOND);
    }
    int fault = reader.faultOf(now.tape, now.tapeCount, use);
    now.tapeCount = 0;
    if (fault >= 0) {
      return -10 - fault;
    }
    there.becomeLike(reader.draft);
    return 1;
  }

  public int untell(int use) {
    Text there = now.textOf(use);
    if (there == null) {
      return error(BEYOND);
    }
    int was = there.size > 0 ? 1 : 0;
    there.size = 0;
    return was;
  }

  public int law(int use, int a, int b, int c) {
    if (use == 0) {
      return now.tookBy(a, b, c);
    }
    return use == 1 ? now.valueBy(a, b, c) : error(BEYOND);
  }

  // ---- rounds

  public int round(int sheet) {
    Sheet s = sheetAt(sheet);
    if (s == null) {
      return error(BEYOND);
    }
    if (!rounds.takeOrder(s, now.paneCount)) {
      return error(NONE);
    }
    return rounds.thoughtOf(now);
  }

  public int reading(int sheet) {
    Sheet s = sheetAt(sheet);
    if (s == null) {
      return error(BEYOND);
    }
    if (!rounds.takeOrder(s, now.paneCount)) {
      return error(NONE);
    }
    if (now.nights >= MOST_NIGHTS) {
      return error(STATE);
    }
    rounds.forget();
    return rounds.readTo(now);
  }

  public int loose(int n) {
    if (!within(n, 1, 30)) {
      return error(BEYOND);
    }
    if (now.nights + n > MOST_NIGHTS) {
      return error(STATE);
    }
    rounds.forget();
    rounds.takeNumbers();
    for (int night = 0; night < n; night++) {
      now.cold = now.draw() % COLDS;
      now.lamp = now.draw() % 2;
      rounds.readTo(now);
    }
    return now.church;
  }

  public int seed(int v) {
    int was = now.z;
    now.z = v;
    return was;
  }

  // ---- what would be

  public int left(int pane, int hour) {
    Pane p = now.paneAt(pane);
    if (p == null || !within(hour, 0, LAST_HOUR)) {
      return error(BEYOND);
    }
    return p.leftAt(hour, now.cold, now.lamp);
  }

  public int best(int what) {
    if (!within(what, -1, MOST_THOUGHT - 1)) {
      return error(BEYOND);
    }
    if (now.paneCount > MOST_THOUGHT) {
      return error(STATE);
    }
    if (what >= now.paneCount) {
      return error(NONE);
    }
    rounds.takeBest(now);
    return what < 0 ? rounds.bestSum : rounds.placeAt(what);
  }

  public int share(int heir) {
    if (!now.hasHeir(heir)) {
      return error(BEYOND);
    }
    if (now.paneCount > MOST_THOUGHT) {
      return error(STATE);
    }
    rounds.takeBest(now);
    return rounds.gainOf(now, heir, 0);
  }

  public int coldFor(int pane, int s) {
    Pane p = now.paneAt(pane);
    if (p == null || !within(s, 0, MOST_STROKES)) {
      return error(BEYOND);
    }
    for (int cold = 0; cold < COLDS; cold++) {
      if (p.strokesBy(cold, now.lamp) >= s) {
        return cold;
      }
    }
    return error(NONE);
  }

  public int breath(int heir, int v, int what) {
    if (!now.hasHeir(heir) || !within(v, 0, MOST_HELD) || !within(what, 0, 1)) {
      return error(BEYOND);
    }
    int set = rounds.breathFor(now, heir, v);
    if (set < 0) {
      return error(NONE);
    }
    return what == 0 ? Integer.bitCount(set) : set;
  }

  public int odds(int pane, int s, int hour, int part) {
    Pane p = now.paneAt(pane);
    if (p == null || !within(s, 0, MOST_STROKES)) {
      return error(BEYOND);
    }
    if (!within(hour, 0, LAST_HOUR) || !within(part, 0, 1)) {
      return error(BEYOND);
    }
    int good = 0;
    for (int cold = 0; cold < COLDS; cold++) {
      if (p.leftAt(hour, cold, now.lamp) >= s) {
        good++;
      }
    }
    // 41 is a prime: only none of them and all of them have lower terms.
    if (good == 0 || good == COLDS) {
      return part == 0 ? good / COLDS : 1;
    }
    return part == 0 ? good : COLDS;
  }

  public int fits(int sheet, int hour, int what) {
    Sheet s = sheetAt(sheet);
    if (s == null || !within(hour, 0, LAST_HOUR) || !within(what, 0, 1)) {
      return error(BEYOND);
    }
    if (s.bits == 0) {
      return error(NONE);
    }
    int many = 0;
    int least = -1;
    for (int cold = 0; cold < COLDS; cold++) {
      if (now.rightOnes(s, hour, cold) == s.size) {
        many++;
        least = least < 0 ? cold : least;
      }
    }
    if (what == 0) {
      return many;
    }
    return many > 0 ? least : error(NONE);
  }

  // ---- voices, sheets, images, what is told

  public int voice(int pane, int voice, int x) {
    Pane p = now.paneAt(pane);
    if (p == null || !within(voice, 0, VOICES - 1)) {
      return error(BEYOND);
    }
    int answer = speaker.answerOf(p, pane, voice, x);
    return speaker.parted ? error(PARTED) : answer;
  }

  public int body(int i) {
    return i >= 0 && i < speaker.traced ? speaker.bodyAt(i) : error(NONE);
  }

  public int sheet(int sheet, int bits, int n) {
    Sheet s = sheetAt(sheet);
    if (s == null || (bits != 0 && bits != 8 && bits != 16 && bits != 32)) {
      return error(BEYOND);
    }
    if (bits != 0 && n < 0) {
      return error(STATE);
    }
    if (bits != 0 && n > MOST_NUMBERS) {
      return error(BEYOND);
    }
    s.bits = bits;
    s.size = bits == 0 ? 0 : n;
    Arrays.fill(s.numbers, 0);
    return 1;
  }

  public int put(int sheet, int i, int v) {
    Sheet s = sheetAt(sheet);
    if (s == null) {
      return error(BEYOND);
    }
    if (s.bits == 0) {
      return error(NONE);
    }
    return s.keep(i, v) ? 1 : error(BEYOND);
  }

  public int move(int sheet, int i, int other, int j, int n) {
    Sheet from = sheetAt(sheet);
    Sheet to = sheetAt(other);
    if (from == null || to == null) {
      return error(BEYOND);
    }
    if (from.bits == 0 || to.bits == 0) {
      return error(NONE);
    }
    if (from.bits != to.bits) {
      return error(UNLIKE);
    }
    if (!from.spans(i, n) || !to.spans(j, n)) {
      return error(BEYOND);
    }
    System.arraycopy(from.numbers, i, to.numbers, j, n);
    return n;
  }

  public int worths(int sheet) {
    Sheet s = sheetAt(sheet);
    if (s == null) {
      return error(BEYOND);
    }
    if (s.bits == 0) {
      return error(NONE);
    }
    for (int i = 0; i < s.size; i++) {
      Pane p = now.paneAt(i);
      int worth = s.numberAt(i);
      if (p == null || !within(worth, 0, MOST_WORTH)) {
        return i;
      }
      p.worth = worth;
    }
    return s.size;
  }

  public int judge(int sheet) {
    Sheet s = sheetAt(sheet);
    if (s == null) {
      return error(BEYOND);
    }
    if (s.bits == 0) {
      return error(NONE);
    }
    return now.rightOnes(s, now.hour, now.cold);
  }

  public int image() {
    kept.becomeLike(now);
    images++;
    return images;
  }

  public int restore() {
    if (images == 0) {
      return error(NONE);
    }
    now.becomeLike(kept);
    return now.nights;
  }

  public int tell(int v) {
    return now.addWaiting(v) ? now.waitCount : error(FULL);
  }

  public int check() {
    int wrong = now.wrongWaiting();
    now.waitCount = 0;
    return wrong + 1;
  }

  public int count(int what) {
    switch (what) {
      case 0: return now.paneCount;
      case 1: return now.heirs;
      case 2: return now.cold;
      case 3: return now.hour;
      case 4: return now.lamp;
      case 5: return now.nights;
      case 6: return now.church;
      case 7: return now.tapeCount;
      case 8: return now.waitCount;
      case 9: return speaker.traced;
      case 10: return now.z;
      default: return error(BEYOND);
    }
  }

  public int told(int k) {
    return k >= BEYOND && k <= PARTED && k < errors.length ? errors[k] : error(BEYOND);
  }

  /** One window; what is written there hangs on the cold and the lamp of that night. */
  private static final class Pane {
    int kind;
    int m;
    int facing;
    int clean;
    int floor;
    int heirNumber;
    int worth;

    void becomeLike(Pane other) {
      kind = other.kind;
      m = other.m;
      facing = other.facing;
      clean = other.clean;
      floor = other.floor;
      heirNumber = other.heirNumber;
      worth = other.worth;
    }

    int strokesBy(int cold, int lamp) {
      int plain = cold / 4 + clean / 3;
      switch (kind) {
        case DOUBLE: return plain / 2;
        case KITCHEN: return Math.max(0, plain - m);
        case OILED: return cold < 12 ? 0 : plain / 3;
        case ENTAIL: return Math.max(plain / 2, m % 4);
        case LAMPED: return lamp == 1 ? 0 : Math.max(0, plain - m);
        case CRACKED: return plain + cold % 3;
        default: return plain;
      }
    }

    int meltsBy(int cold) {
      int plain = 1 + m / 5;
      switch (kind) {
        case DOUBLE: return Math.max(0, plain - 1);
        case KITCHEN: return 2 * plain;
        case ENTAIL: return Math.max(0, plain - 1) + cold % 2;
        case LAMPED: return 2 * plain;
        case CRACKED: return plain + m;
        default: return plain;
      }
    }

    int sunnyHours(int hour) {
      switch (facing) {
        case 1: return Math.max(0, hour - 7);
        case 2: return Math.max(0, hour - 10);
        case 3: return Math.max(0, hour - 15);
        default: return 0;
      }
    }

    int leftAt(int hour, int cold, int lamp) {
      return Math.max(0, strokesBy(cold, lamp) - meltsBy(cold) * sunnyHours(hour));
    }
  }

  /** All that an image keeps. */
  private static final class House {
    final Pane[] panes;
    final int[] purses;
    final int[] tape;
    final int[] waiting;
    final Text took;
    final Text value;
    int paneCount;
    int heirs;
    int tapeCount;
    int waitCount;
    int church;
    int cold;
    int hour;
    int lamp;
    int nights;
    int z;

    House() {
      panes = new Pane[MOST_PANES];
      for (int i = 0; i < MOST_PANES; i++) {
        panes[i] = new Pane();
      }
      purses = new int[MOST_HEIRS];
      tape = new int[MOST_BYTES];
      waiting = new int[MOST_WAITING];
      took = new Text();
      value = new Text();
      cold = 12;
      hour = 6;
      z = 1;
    }

    void becomeLike(House other) {
      for (int i = 0; i < MOST_PANES; i++) {
        Pane mine = panes[i];
        Pane its = other.panes[i];
        if (mine != null && its != null) {
          mine.becomeLike(its);
        }
      }
      System.arraycopy(other.purses, 0, purses, 0, MOST_HEIRS);
      System.arraycopy(other.tape, 0, tape, 0, MOST_BYTES);
      System.arraycopy(other.waiting, 0, waiting, 0, MOST_WAITING);
      took.becomeLike(other.took);
      value.becomeLike(other.value);
      paneCount = other.paneCount;
      heirs = other.heirs;
      tapeCount = other.tapeCount;
      waitCount = other.waitCount;
      church = other.church;
      cold = other.cold;
      hour = other.hour;
      lamp = other.lamp;
      nights = other.nights;
      z = other.z;
    }

    Pane paneAt(int i) {
      return i >= 0 && i < paneCount && i < panes.length ? panes[i] : null;
    }

    Pane addPane() {
      if (paneCount >= MOST_PANES) {
        return null;
      }
      paneCount++;
      return paneAt(paneCount - 1);
    }

    boolean hasHeir(int i) {
      return i >= 0 && i < heirs;
    }

    int purse(int i) {
      return i >= 0 && i < purses.length ? purses[i] : 0;
    }

    void give(int i, int more) {
      if (i >= 0 && i < purses.length) {
        purses[i] = Math.min(MOST_HELD, purses[i] + more);
      }
    }

    Text textOf(int use) {
      if (use == 0) {
        return took;
      }
      return use == 1 ? value : null;
    }

    int tookBy(int s, int f, int k) {
      return took.size == 0 ? 1 : held(took.workOut(s, f, k), 1, 9);
    }

    int valueBy(int r, int w, int h) {
      return held(value.size == 0 ? r * w : value.workOut(r, w, h), 0, MOST_VALUE);
    }

    int draw() {
      z = z * 1103515245 + 12345;
      return z >>> 8;
    }

    void addByte(int b) {
      if (tapeCount >= 0 && tapeCount < tape.length) {
        tape[tapeCount] = b;
        tapeCount++;
      }
    }

    boolean addWaiting(int v) {
      if (waitCount < 0 || waitCount >= waiting.length) {
        return false;
      }
      waiting[waitCount] = v;
      waitCount++;
      return true;
    }

    int wrongWaiting() {
      for (int i = 0; i < waitCount && i < waiting.length; i++) {
        if (!hasHeir(i) || purse(i) != waiting[i]) {
          return i;
        }
      }
      return -1;
    }

    // A number without a PANE is not right.
    int rightOnes(Sheet s, int atHour, int atCold) {
      for (int i = 0; i < s.size; i++) {
        Pane p = paneAt(i);
        if (p == null || p.leftAt(atHour, atCold, lamp) != s.numberAt(i)) {
          return i;
        }
      }
      return s.size;
    }
  }

  /** A row of numbers; missing while it has no bits. */
  private static final class Sheet {
    final int[] numbers;
    int bits;
    int size;

    Sheet() {
      numbers = new int[MOST_NUMBERS];
    }

    int numberAt(int i) {
      return i >= 0 && i < size && i < numbers.length ? numbers[i] : 0;
    }

    boolean keep(int i, int v) {
      if (i < 0 || i >= size || i >= numbers.length) {
        return false;
      }
      if (bits == 8) {
        numbers[i] = v & 0xFF;
      } else {
        numbers[i] = bits == 16 ? v & 0xFFFF : v;
      }
      return true;
    }

    boolean spans(int i, int n) {
      return i >= 0 && n >= 0 && n <= size && i <= size - n && size <= numbers.length;
    }
  }

  /** A text, its names as places and its signs behind what they join. */
  private static final class Text {
    static final int NAMES = 10000;
    static final int SIGNS = 20000;

    final int[] steps;
    final int[] stack;
    int size;

    Text() {
      steps = new int[MOST_BYTES];
      stack = new int[MOST_BYTES];
    }

    void becomeLike(Text other) {
      System.arraycopy(other.steps, 0, steps, 0, MOST_BYTES);
      size = other.size;
    }

    void addStep(int step) {
      if (size >= 0 && size < steps.length) {
        steps[size] = step;
        size++;
      }
    }

    int workOut(int a, int b, int c) {
      int top = 0;
      for (int i = 0; i < size && i < steps.length; i++) {
        int step = steps[i];
        if (step < SIGNS) {
          if (top < stack.length) {
            stack[top] = step < NAMES ? step : named(step, a, b, c);
            top++;
          }
        } else if (step == SIGNS + '!') {
          if (top >= 1) {
            stack[top - 1] = stack[top - 1] == 0 ? 1 : 0;
          }
        } else if (top >= 2) {
          top--;
          stack[top - 1] = joined(step - SIGNS, stack[top - 1], stack[top]);
        }
      }
      return top >= 1 ? stack[0] : 0;
    }

    private static int named(int step, int a, int b, int c) {
      switch (step - NAMES) {
        case 0: return a;
        case 1: return b;
        default: return c;
      }
    }

    private static int joined(int sign, int a, int b) {
      switch (sign) {
        case '|': return a != 0 || b != 0 ? 1 : 0;
        case '&': return a != 0 && b != 0 ? 1 : 0;
        case '<': return a < b ? 1 : 0;
        case '=': return a == b ? 1 : 0;
        case '>': return a > b ? 1 : 0;
        case '+': return a + b;
        case '-': return a - b;
        case '*': return a * b;
        case '/': return b == 0 ? 0 : a / b;
        default: return b == 0 ? 0 : a % b;
      }
    }
  }

  /** Reads a tape; where it stops short is the fault, as nothing is passed that no text has. */
  private static final class Reader {
    private static final int OR = 0;
    private static final int AND = 1;
    private static final int COMPARED = 2;
    private static final int SUM = 3;
    private static final int PRODUCT = 4;

    final Text draft;
    private int[] tape;
    private int length;
    private int use;
    private int at;

    Reader() {
      draft = new Text();
      tape = draft.steps;
    }

    /** -1 if the tape is a text: it stands in the draft then. */
    int faultOf(int[] bytes, int many, int forUse) {
      tape = bytes;
      length = Math.min(many, bytes.length);
      use = forUse;
      at = 0;
      draft.size = 0;
      boolean whole = readLevel(OR, 0) && at >= length;
      return whole ? -1 : at;
    }

    private int next() {
      return at >= 0 && at < length && at < tape.length ? tape[at] : -1;
    }

    private boolean readLevel(int level, int open) {
      if (level > PRODUCT) {
        return readPart(open);
      }
      if (!readLevel(level + 1, open)) {
        return false;
      }
      for (int turn = 0; turn < MOST_BYTES; turn++) {
        int sign = next();
        if (levelOf(sign) != level) {
          return true;
        }
        at++;
        if (!readLevel(level + 1, open)) {
          return false;
        }
        draft.addStep(Text.SIGNS + sign);
        if (level == COMPARED) {
          return true;
        }
      }
      return true;
    }

    private boolean readPart(int open) {
      int sign = next();
      if (isDigit(sign)) {
        readNumber();
        return true;
      }
      int name = nameOf(sign);
      if (name >= 0) {
        at++;
        draft.addStep(Text.NAMES + name);
        return true;
      }
      if (open >= MOST_OPEN || (sign != '!' && sign != '(')) {
        return false;
      }
      at++;
      if (sign == '!') {
        boolean good = readPart(open + 1);
        draft.addStep(Text.SIGNS + sign);
        return good;
      }
      if (!readLevel(OR, open + 1) || next() != ')') {
        return false;
      }
      at++;
      return true;
    }

    private void readNumber() {
      int number = 0;
      for (int digits = 0; digits < 4 && isDigit(next()); digits++) {
        number = number * 10 + next() - '0';
        at++;
      }
      draft.addStep(number);
    }

    private static boolean isDigit(int sign) {
      return sign >= '0' && sign <= '9';
    }

    private static int levelOf(int sign) {
      switch (sign) {
        case '|': return OR;
        case '&': return AND;
        case '<':
        case '=':
        case '>': return COMPARED;
        case '+':
        case '-': return SUM;
        case '*':
        case '/':
        case '%': return PRODUCT;
        default: return -1;
      }
    }

    private int nameOf(int sign) {
      switch (sign) {
        case 's': return use == 0 ? 0 : -1;
        case 'f': return use == 0 ? 1 : -1;
        case 'k': return use == 0 ? 2 : -1;
        case 'r': return use == 1 ? 0 : -1;
        case 'w': return use == 1 ? 1 : -1;
        case 'h': return use == 1 ? 2 : -1;
        default: return -1;
      }
    }
  }

  /** Walks rounds. Texts are slow, so what they make of a pane and a number of strokes is noted. */
  private static final class Rounds {
    // No pane has more than 14 strokes: 9 and 3, and 2 for the crack.
    private static final int COLUMNS = 16;

    private final int[] values;
    private final int[] tooks;
    private final int[] order;
    private final int[] path;
    private final int[] wills;
    int bestSum;

    Rounds() {
      values = new int[MOST_PANES * COLUMNS];
      tooks = new int[MOST_PANES * COLUMNS];
      order = new int[MOST_PANES];
      path = new int[MOST_PANES];
      wills = new int[MOST_PANES];
    }

    /** Before each act: what was noted was by other texts or panes. */
    void forget() {
      Arrays.fill(values, -1);
      Arrays.fill(tooks, -1);
    }

    private static int cellOf(int number, int strokes) {
      boolean there = within(number, 0, MOST_PANES - 1) && within(strokes, 0, COLUMNS - 1);
      return there ? number * COLUMNS + strokes : -1;
    }

    private int valueOf(House h, int number, int r) {
      Pane p = h.paneAt(number);
      int cell = cellOf(number, r);
      if (p == null || cell < 0 || cell >= values.length) {
        return 0;
      }
      if (values[cell] < 0) {
        values[cell] = h.valueBy(r, p.worth, p.heirNumber);
      }
      return values[cell];
    }

    private int tookOf(House h, int number, int s) {
      Pane p = h.paneAt(number);
      int cell = cellOf(number, s);
      if (p == null || cell < 0 || cell >= tooks.length) {
        return 0;
      }
      if (tooks[cell] < 0) {
        tooks[cell] = h.tookBy(s, p.floor, p.kind);
      }
      return tooks[cell];
    }

    int placeAt(int i) {
      return i >= 0 && i < order.length ? order[i] : 0;
    }

    void takeNumbers() {
      for (int i = 0; i < order.length; i++) {
        order[i] = i;
      }
    }

    /** Whether the sheet is there and is a round of so many panes. */
    boolean takeOrder(Sheet s, int many) {
      if (s.bits == 0 || s.size != many || many > order.length) {
        return false;
      }
      int seen = 0;
      for (int i = 0; i < many; i++) {
        int number = s.numberAt(i);
        if (number < 0 || number >= many || (seen >> number & 1) == 1) {
          return false;
        }
        seen |= 1 << number;
        order[i] = number;
      }
      return true;
    }

    int thoughtOf(House h) {
      forget();
      return walk(h, 0);
    }

    /** Walks the order; the value of each pane stands by its number then. */
    private int walk(House h, int breathed) {
      int hour = h.hour;
      int sum = 0;
      for (int i = 0; i < h.paneCount; i++) {
        int number = placeAt(i);
        Pane p = h.paneAt(number);
        if (p != null && number < wills.length) {
          boolean bare = (breathed >> number & 1) == 1;
          int read = bare ? 0 : p.leftAt(hour, h.cold, h.lamp);
          wills[number] = valueOf(h, number, read);
          sum += wills[number];
          hour += tookOf(h, number, read);
        }
      }
      return sum;
    }

    int readTo(House h) {
      int sum = walk(h, 0);
      for (int i = 0; i < h.paneCount && i < wills.length; i++) {
        Pane p = h.paneAt(i);
        if (p != null) {
          h.give(p.heirNumber, wills[i]);
          int melted = valueOf(h, i, p.strokesBy(h.cold, h.lamp)) - wills[i];
          h.church = Math.min(MOST_HELD, h.church + Math.max(0, melted));
        }
      }
      h.nights++;
      return sum;
    }

    int gainOf(House h, int heir, int breathed) {
      walk(h, breathed);
      int gain = 0;
      for (int i = 0; i < h.paneCount && i < wills.length; i++) {
        Pane p = h.paneAt(i);
        if (p != null && p.heirNumber == heir) {
          gain += wills[i];
        }
      }
      return gain;
    }

    /** The best round becomes the order. */
    void takeBest(House h) {
      forget();
      bestSum = -1;
      seek(h, 0, 0, h.hour, 0);
    }

    // By numbers from the least on, so that a later round must come to more.
    private void seek(House h, int place, int seen, int hour, int sum) {
      if (place >= h.paneCount || place >= MOST_THOUGHT) {
        if (sum > bestSum) {
          bestSum = sum;
          System.arraycopy(path, 0, order, 0, MOST_PANES);
        }
        return;
      }
      for (int i = 0; i < h.paneCount; i++) {
        Pane p = h.paneAt(i);
        if (p != null && (seen >> i & 1) == 0) {
          int read = p.leftAt(hour, h.cold, h.lamp);
          path[place] = i;
          seek(h, place + 1, seen | 1 << i, hour + tookOf(h, i, read), sum + valueOf(h, i, read));
        }
      }
    }

    /** The fewest panes, then the least bits; -1 if no set does. */
    int breathFor(House h, int heir, int wanted) {
      forget();
      takeNumbers();
      for (int many = 0; many <= h.paneCount; many++) {
        for (int set = 0; set < 1 << h.paneCount; set++) {
          if (Integer.bitCount(set) == many && gainOf(h, heir, set) >= wanted) {
            return set;
          }
        }
      }
      return -1;
    }
  }

  /** Lets panes speak; the bodies that began are the trace. */
  private static final class Speaker {
    // The longest chain there is has six bodies.
    private static final int DEEPEST = 12;

    private final int[] trace;
    int traced;
    boolean parted;
    private int kind;
    private int k;
    private int m;

    Speaker() {
      trace = new int[MOST_TRACED];
    }

    int bodyAt(int i) {
      return i >= 0 && i < trace.length ? trace[i] : 0;
    }

    int answerOf(Pane p, int number, int voice, int x) {
      kind = p.kind;
      m = p.m;
      k = number;
      traced = 0;
      parted = false;
      return say(kind, voice, x, 0);
    }

    private void note(int body) {
      if (traced >= 0 && traced < trace.length) {
        trace[traced] = body;
        traced++;
      }
    }

    private static int bodyOf(int kind, int voice) {
      int i = kind * VOICES + voice;
      return i >= 0 && i < BODIES.length ? BODIES[i] : 0;
    }

    private static int kindThatHas(int from, int voice) {
      int at = from;
      for (int step = 0; step < KINDS && at > 0; step++) {
        if (bodyOf(at, voice) != 0) {
          return at;
        }
        at = kindAbove(at);
      }
      return at;
    }

    private int say(int from, int voice, int x, int depth) {
      if (depth > DEEPEST) {
        return 0;
      }
      int home = kindThatHas(from, voice);
      int above = kindAbove(home);
      int deeper = depth + 1;
      int body = bodyOf(home, voice);
      note(body);
      switch (body) {
        case 10: return x + k;
        case 11: return say(kind, FERNS, x, deeper) * 2;
        case 12: return say(kind, STARS, x, deeper) - m;
        case 13: return part(x);
        case 20: return say(above, FERNS, x, deeper) - 4;
        case 21: return partsOfDouble(above, x, deeper);
        case 30: return 0 - say(above, STARS, x, deeper);
        case 40: return say(above, THAWS, x / 2, deeper);
        case 50: return say(above, FERNS, x, deeper) * 3;
        case 51: return say(above, THAWS, x, deeper) ^ k;
        case 60: return say(above, STARS, x + 1, deeper);
        case 70: return 9;
        case 71: return say(above, STARS, x, deeper) + m;
        default: return 0;
      }
    }

    private int partsOfDouble(int above, int x, int depth) {
      int parts = say(above, PARTS, x, depth);
      return parted ? 0 : parts + say(kind, STARS, 1, depth);
    }

    private int part(int x) {
      int by = m - k;
      if (by == 0) {
        parted = true;
        return 0;
      }
      return x / by;
    }
  }
}
