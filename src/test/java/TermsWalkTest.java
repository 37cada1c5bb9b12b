import java.io.IOException;

/** The document from its first line to the end of its terms, sentence by sentence. */
public final class TermsWalkTest {
  private static final int LEAST = Integer.MIN_VALUE;
  private static final int MOST = Integer.MAX_VALUE;
  private static Walk walk;

  public static void main(String[] args) throws IOException {
    walk = new Walk("# FrostWills", "## Promise 1:");
    whatItIs();
    errors();
    heirsAndSettings();
    panes();
    strokes();
    melts();
    left();
    rounds();
    reading();
    byDraws();
    grammar();
    whatTextsGive();
    uses();
    best();
    breath();
    odds();
    voices();
    voicesBelow();
    sheets();
    theInterface();
    walk.end();
    Due.end("TermsWalkTest");
  }

  private static void is(long got, long want) {
    walk.is(got, want);
  }

  private static void whatItIs() {
    walk.noCall("# FrostWills ## What it is Frost writes the wills: nobody makes one, it is read on one's"
        + " window the morning after, by the notary, who goes from pane to pane before the sun is round,"
        + " and what has melted goes to the Church; panes of kinds, double ones, kitchens that write"
        + " little, oiled paper, entails, lamps left burning, cracked ones, clean or not, toward north or"
        + " the sun, up a ladder; heirs who have what was read; rounds as told, the best round, what an"
        + " heir has by it, how cold it must be for so much, which panes to breathe on, odds of a stroke,"
        + " how cold it was by what was left; nights by draws; laws in texts, rows, images.");
    walk.says("An object is used for at most 512 calls after it has been made; what later calls answer is"
        + " free.");
    FrostWills x = new FrostWills();
    for (int i = 1; i < 512; i++) {
      x.told(0);
    }
    is(x.told(1), 511);
    // LanguageTest has the face as the document prints it.
    walk.noCall("## The public face public final class FrostWills { public FrostWills();"
        + " public int heir(); public int pane(int km, int fc, int floor, int heir, int worth);"
        + " public int paneIs(int pane, int what); public int become(int pane, int km);"
        + " public int as(int pane, int kind); public int wipe(int pane, int clean);"
        + " public int names(int pane, int heir); public int has(int heir);"
        + " public int set(int what, int v); public int feed(long word, int n);"
        + " public int text(int use); public int untell(int use);"
        + " public int law(int use, int a, int b, int c); public int round(int sheet);"
        + " public int reading(int sheet); public int loose(int n); public int seed(int v);"
        + " public int left(int pane, int hour); public int best(int what);"
        + " public int share(int heir); public int coldFor(int pane, int s);"
        + " public int breath(int heir, int v, int what);"
        + " public int odds(int pane, int s, int hour, int part);"
        + " public int fits(int sheet, int hour, int what);"
        + " public int voice(int pane, int voice, int x); public int body(int i);"
        + " public int sheet(int sheet, int bits, int n); public int put(int sheet, int i, int v);"
        + " public int move(int sheet, int i, int other, int j, int n);"
        + " public int worths(int sheet); public int judge(int sheet); public int image();"
        + " public int restore(); public int tell(int v); public int check();"
        + " public int count(int what); public int told(int k); }");
  }

  private static void errors() {
    walk.says("## Terms ERRORS are answers below -1000000000: LOW is -1000000000; LOW - 1 BEYOND, LOW - 2"
        + " NONE, LOW - 3 STATE, LOW - 4 FULL, LOW - 5 KIND, LOW - 6 PARTED (in longs, too).");
    FrostWills x = Twins.crowd(6, 8);
    is(x.has(6), -1000000001);
    is(x.restore(), -1000000002);
    is(x.best(0), -1000000003);
    is(x.heir(), -1000000004);
    is(x.as(0, 1), -1000000005);
    is(x.voice(0, 3, 1), -1000000006);
    walk.says("Each act tells its ERRORS in the order in which they are asked; one that answers an ERROR"
        + " changes nothing but what told() tells, or where told.");
    x = Twins.crowd(6, 8);
    is(x.pane(70, 0, 0, 0, 0), Due.BEYOND);
    is(x.pane(0, 0, 0, 0, 0), Due.FULL);
    is(x.best(6), Due.BEYOND);
    is(x.best(5), Due.STATE);
    is(x.put(1, 24, 0), Due.NONE);
    is(x.put(0, 24, 0), Due.BEYOND);
    is(x.told(1), 3);
    is(x.told(4), 1);
    is(x.count(0), 8);
    is(x.round(0), 6 * 28);
    x.voice(1, 2, 0);
    is(x.voice(0, 3, 0), Due.PARTED);
    is(x.count(9), 1);
    walk.says("Quotients are cut toward 0.");
    is(law("r/w+9", -7, 2, 0), 6);
    is(law("r/w+9", 7, -2, 0), 6);
    is(speaker(0).voice(2, 3, 7), -3);
    is(speaker(30).voice(2, 2, -3), (-1 + 2) * 2);
  }

  private static void heirsAndSettings() {
    walk.says("1. HEIRS 0, 1, .. (at most 6), each HAS 0 .. 99999 (0 at first); THE CHURCH likewise.");
    FrostWills x = new FrostWills();
    for (int i = 0; i < 6; i++) {
      is(x.heir(), i);
      is(x.has(i), 0);
    }
    is(x.heir(), Due.FULL);
    is(x.has(-1), 0);
    Due.tell(x, 1, "(h=1)*9999+(h=0)*(r=13)*9999");
    x.set(0, 40);
    x.set(1, 23);
    x.pane(0, 19, 0, 0, 0);
    x.pane(0, 9, 0, 1, 0);
    x.sheet(0, 8, 2);
    x.put(0, 1, 1);
    for (int i = 0; i < 11; i++) {
      x.reading(0);
    }
    is(x.has(0), 0);
    is(x.has(1), 99999);
    is(x.has(-1), 99999);
    walk.says("COLD (0 .. 40; 12 at first), HOUR at which the notary sets out (0 .. 23; 6 at first), a LAMP"
        + " burns (1) or not (0, at first), NIGHTS that were read (0 .. 9999; 0 at first).");
    x = new FrostWills();
    is(x.set(0, 40), 12);
    is(x.set(0, 0), 40);
    is(x.set(0, 41), Due.BEYOND);
    is(x.set(1, 23), 6);
    is(x.set(1, 0), 23);
    is(x.set(1, 24), Due.BEYOND);
    is(x.set(2, 1), 0);
    is(x.set(2, 0), 1);
    is(x.set(2, 2), Due.BEYOND);
    is(x.count(5), 0);
    is(Twins.late(9999).count(5), 9999);
    is(Twins.late(9999).reading(0), Due.STATE);
  }

  private static void panes() {
    walk.says("PANES 0, 1, .. (at most 8), of KINDS: 0 PANE, 1 DOUBLE under PANE, 2 KITCHEN under PANE,"
        + " 3 OILED under PANE, 4 ENTAIL under DOUBLE, 5 LAMPED under KITCHEN, 6 CRACKED under PANE; each"
        + " with a number m (0 .. 9), FACING 0 north, 1 east, 2 south, 3 west, CLEAN (0 .. 9), on a FLOOR"
        + " (0 .. 9), for an HEIR, of WORTH (0 .. 99) a stroke.");
    FrostWills x = Due.withHeirs(2);
    is(x.pane(69, 39, 9, 1, 99), 0);
    int[] is = {6, 9, 3, 9, 9, 1, 99};
    for (int what = 0; what < 7; what++) {
      is(x.paneIs(0, what), is[what]);
    }
    for (int i = 1; i < 8; i++) {
      is(x.pane(0, 0, 0, 0, 0), i);
    }
    is(x.pane(0, 0, 0, 0, 0), Due.FULL);
    // A row a KIND: which it is, too.
    String[] under = {"0", "01", "02", "03", "014", "025", "06"};
    for (int kind = 0; kind < 7; kind++) {
      x.become(1, 10 * kind + 4);
      for (int as = 0; as < 7; as++) {
        is(x.as(1, as), under[kind].indexOf('0' + as) >= 0 ? 4 : Due.KIND);
      }
    }
  }

  private static int strokes(int km, int clean, int cold, int lamp) {
    FrostWills x = Due.withHeirs(1);
    x.pane(km, clean, 0, 0, 1);
    x.set(0, cold);
    x.set(2, lamp);
    return x.paneIs(0, 7);
  }

  private static void strokes() {
    walk.says("STROKES: PANE: COLD by 4 (cut) and CLEAN by 3 (cut).");
    is(strokes(9, 8, 39, 0), 9 + 2);
    is(strokes(0, 2, 3, 1), 0);
    walk.says("DOUBLE: half of PANE's (cut).");
    is(strokes(19, 8, 39, 0), 5);
    is(strokes(10, 9, 39, 1), 6);
    walk.says("KITCHEN: as PANE, less m (0 at least).");
    is(strokes(24, 8, 39, 1), 11 - 4);
    is(strokes(29, 8, 20, 0), 0);
    walk.says("OILED: 0, if COLD is below 12; else PANE's by 3 (cut).");
    is(strokes(33, 9, 11, 0), 0);
    is(strokes(33, 9, 12, 1), 2);
    is(strokes(33, 6, 39, 0), 3);
    walk.says("ENTAIL: as DOUBLE, but the rest of m by 4 at least.");
    is(strokes(47, 8, 39, 0), 5);
    is(strokes(47, 0, 0, 0), 3);
    is(strokes(44, 0, 8, 0), 1);
    walk.says("LAMPED: 0, if the LAMP burns; else as KITCHEN.");
    is(strokes(54, 8, 39, 1), 0);
    is(strokes(54, 8, 39, 0), 7);
    is(strokes(59, 8, 20, 0), 0);
    walk.says("CRACKED: as PANE, and the rest of COLD by 3.");
    is(strokes(69, 8, 38, 0), 11 + 2);
    is(strokes(69, 8, 39, 0), 11);
    is(strokes(69, 8, 40, 0), 12 + 1);
  }

  /** Of one that faces east, CLEAN 9, from 7 to 8. */
  private static int melts(int km, int cold) {
    FrostWills x = Due.withHeirs(1);
    x.pane(km, 19, 0, 0, 1);
    x.set(0, cold);
    return x.left(0, 7) - x.left(0, 8);
  }

  private static void melts() {
    walk.says("MELTS (strokes an hour in the sun): PANE: 1 and m by 5 (cut).");
    is(melts(4, 40), 1);
    is(melts(5, 39), 2);
    is(melts(9, 40), 2);
    walk.says("DOUBLE: as PANE, less 1 (0 at least).");
    is(melts(14, 40), 0);
    is(melts(15, 39), 1);
    walk.says("KITCHEN: twice PANE's.");
    is(melts(24, 40), 2);
    is(melts(25, 40), 4);
    walk.says("OILED: as PANE.");
    is(melts(34, 39), 1);
    is(melts(35, 40), 2);
    walk.says("ENTAIL: as DOUBLE, and the rest of COLD by 2.");
    is(melts(44, 40), 0);
    is(melts(44, 39), 1);
    is(melts(45, 40), 1);
    is(melts(45, 39), 2);
    walk.says("LAMPED: as KITCHEN.");
    is(melts(54, 40), 2);
    is(melts(55, 40), 4);
    walk.says("CRACKED: as PANE, and m.");
    is(melts(60, 40), 1);
    is(melts(64, 40), 1 + 4);
    is(melts(69, 38), 2 + 9);
  }

  private static void left() {
    walk.says("LEFT of a PANE at an hour: STROKES, if it is FACING north; else STROKES, less MELTS for each"
        + " hour since the sun came (at 7 to the east, at 10 to the south, at 15 to the west), 0 at least.");
    int[] comes = {99, 7, 10, 15};
    for (int facing = 0; facing < 4; facing++) {
      FrostWills x = Due.withHeirs(1);
      x.pane(5, 10 * facing + 3, 0, 0, 1);
      x.set(0, 40);
      for (int hour = 0; hour < 24; hour++) {
        is(x.left(0, hour), Math.max(0, 11 - 2 * Math.max(0, hour - comes[facing])));
      }
    }
  }

  /** COLD 40, 13 STROKES each that melt by 1: at 23 and 24 there are 5 and 4 left. */
  private static FrostWills twoWest() {
    FrostWills x = Due.withHeirs(2);
    x.set(0, 40);
    x.set(1, 23);
    x.pane(0, 39, 1, 0, 2);
    x.pane(0, 39, 3, 1, 3);
    Due.row(x, 0, 8, 0, 1);
    Due.row(x, 1, 16, 1, 0);
    return x;
  }

  private static void rounds() {
    walk.says("A ROUND: all PANES, each once, one behind the other.");
    FrostWills x = twoWest();
    is(x.round(0), 5 * 2 + 4 * 3);
    is(x.round(1), 5 * 3 + 4 * 2);
    int[][] none = {{}, {0}, {0, 0}, {0, 2}, {0, 1, 1}, {0, 1, 2}};
    for (int[] n : none) {
      Due.row(x, 2, 32, n);
      is(x.round(2), Due.NONE);
    }
    walk.says("The first is read at HOUR, each next one so many hours on as the one ahead TOOK (by the TEXT"
        + " of that USE; beyond 23, too); what is READ of a PANE is what is LEFT of it then; its VALUE is"
        + " what the TEXT of that USE makes of it.");
    x.set(1, 16);
    is(x.round(0), 12 * 2 + 11 * 3);
    Due.tell(x, 0, "f*2");
    is(x.round(0), 12 * 2 + 10 * 3);
    is(x.round(1), 12 * 3 + 6 * 2);
    x.set(1, 23);
    is(x.round(0), 5 * 2 + 3 * 3);
    Due.tell(x, 0, "s+k");
    is(x.round(0), 5 * 2);
    Due.tell(x, 1, "r*100+w*10+h");
    is(x.round(0), 520 + 31);
    walk.says("A ROUND comes to all VALUES together.");
    Due.tell(x, 1, "9999");
    is(x.round(0), 19998);
  }

  private static void reading() {
    walk.says("TO READ a ROUND: of each PANE, by numbers, its HEIR HAS the VALUE more, THE CHURCH what the"
        + " VALUE of all its STROKES would be above that (0, if that is less), each held at 99999; NIGHTS"
        + " is 1 more.");
    FrostWills x = twoWest();
    is(x.reading(0), 22);
    is(x.has(0), 5 * 2);
    is(x.has(1), 4 * 3);
    is(x.has(-1), (13 - 5) * 2 + (13 - 4) * 3);
    is(x.count(5), 1);
    Due.tell(x, 1, "20-r");
    is(x.reading(1), 15 + 16);
    is(x.has(0), 10 + 16);
    is(x.has(1), 12 + 15);
    is(x.has(-1), 43);
    is(x.count(5), 2);
    Due.tell(x, 1, "(h=0)*9999+(h=1)*(r=13)*9999");
    for (int i = 0; i < 10; i++) {
      is(x.reading(0), 9999);
    }
    is(x.has(0), 99999);
    is(x.has(1), 27);
    is(x.has(-1), 99999);
  }

  private static void byDraws() {
    walk.says("BY DRAWS a night: two draws: COLD is the first one's rest by 41, the LAMP the second one's"
        + " rest by 2; then the ROUND by numbers of PANES is READ.");
    FrostWills x = twoWest();
    x.names(1, 0);
    is(x.loose(1), (12 - 4) * 2 + (12 - 3) * 3);
    is(x.count(2), 4310654 % 41);
    is(x.count(4), 9862832 % 2);
    is(x.has(0), 4 * 2 + 3 * 3);
    is(x.count(5), 1);
    walk.says("DRAWS: z is told (1 at first); each makes it z * 1103515245 + 12345 (an int), and gives"
        + " z >>> 8.");
    x = Due.withHeirs(0);
    is(x.count(10), 1);
    long z = 1;
    for (int night = 0; night < 40; night++) {
      x.loose(1);
      z = z * 1103515245L + 12345L & 0xFFFFFFFFL;
      is(x.count(2), (z >> 8) % 41);
      z = z * 1103515245L + 12345L & 0xFFFFFFFFL;
      is(x.count(4), (z >> 8) % 2);
      is(x.count(10), (int) z);
    }
  }

  private static int text(String text) {
    return Due.tell(new FrostWills(), 1, text);
  }

  private static int law(String text, int r, int w, int h) {
    FrostWills x = new FrostWills();
    int told = Due.tell(x, 1, text);
    return told == 1 ? x.law(1, r, w, h) : told;
  }

  private static void grammar() {
    walk.says("2. TEXTS are read from THE TAPE (bytes, at most 60): T: A { | A }.");
    FrostWills x = new FrostWills();
    for (int i = 1; i <= 60; i++) {
      is(x.feed(i % 2 == 1 ? '1' : '|', 1), i);
    }
    is(x.feed('1', 1), Due.FULL);
    is(x.text(1), -70);
    is(law("0|0|3", 0, 0, 0), 1);
    is(law("1|0&0", 0, 0, 0), 1);
    walk.says("A: B { & B }.");
    is(law("2&3&4", 0, 0, 0), 1);
    is(law("0&1=0", 0, 0, 0), 0);
    walk.says("B: S, or S < S, S = S, S > S.");
    is(law("1+1<3", 0, 0, 0), 1);
    is(law("2=1+1", 0, 0, 0), 1);
    is(law("2>1+1", 0, 0, 0), 0);
    is(text("1<2<3"), -13);
    is(text("1=2>3"), -13);
    walk.says("S: P { + P, - P }.");
    is(law("9-4-3+2*5", 0, 0, 0), 12);
    walk.says("P: Q { * Q, / Q, % Q }.");
    is(law("9/2*2", 0, 0, 0), 8);
    is(law("9%5*3", 0, 0, 0), 12);
    is(law("2*!0*3", 0, 0, 0), 6);
    walk.says("Q: a NUMBER of 1 to 4 digits, a NAME, ! Q, ( T ).");
    is(law("7", 0, 0, 0), 7);
    is(law("0042", 0, 0, 0), 42);
    is(text("12345"), -14);
    is(law("h", 1, 2, 3), 3);
    is(law("!r+5", 7, 0, 0), 5);
    is(law("(0|1)*8", 0, 0, 0), 8);
    is(text("()"), -11);
    walk.says("No blanks.");
    is(text(" 1"), -10);
    is(text("1 +2"), -11);
    is(text("12 "), -12);
    walk.says("At most 5 of ! and ( are open at once.");
    is(law("(!(!(r))))", 3, 0, 0), -19);
    is(law("(!(!(r)))", 3, 0, 0), 1);
    is(text("(!(!(!r)))"), -15);
    is(text("!!!!!!r"), -15);
    is(law("!!!!!r+!!!!!w", 0, 0, 0), 2);
  }

  private static void whatTextsGive() {
    walk.says("Ints that wrap; / cut, % the rest that it leaves, both by 0 are 0; | & < = > ! are 1 or 0,"
        + " what is not 0 being true; all is worked out.");
    is(law("r+1=w", MOST, LEAST, 0), 1);
    is(law("r-1=w", LEAST, MOST, 0), 1);
    is(law("r*2=w", MOST, -2, 0), 1);
    is(law("r/w=h", LEAST, -1, LEAST), 1);
    is(law("r/2=w", -7, -3, 0), 1);
    is(law("r%4=w", -7, -3, 0), 1);
    is(law("7+r/0", 5, 0, 0), 7);
    is(law("7+r%0", 5, 0, 0), 7);
    is(law("r|w", 0, -1, 0), 1);
    is(law("r&w", 2, -4, 0), 1);
    is(law("r&w", 2, 0, 0), 0);
    is(law("r<w", -1, 0, 0), 1);
    is(law("r<w", 0, 0, 0), 0);
    is(law("r=w", 5, 5, 0), 1);
    is(law("r>w", 1, 0, 0), 1);
    is(law("!r", -3, 0, 0), 0);
    is(law("!r", 0, 0, 0), 1);
    is(law("1|7/0", 0, 0, 0), 1);
    walk.says("FAULT: the place of the first byte with which no TEXT goes on; how many there are, if it ends"
        + " too early.");
    is(text("1+*2+*"), -12);
    is(text("(1))"), -13);
    is(text("12+"), -13);
    is(text("(1"), -12);
    is(text(""), -10);
  }

  private static void uses() {
    walk.says("USES: 0 TOOK (hours): NAMES s what is READ, f FLOOR, k KIND; held within 1 .. 9; without a"
        + " TEXT 1.");
    FrostWills x = new FrostWills();
    is(x.law(0, 7, 7, 7), 1);
    is(Due.tell(x, 0, "s*4+f*2+k"), 1);
    is(x.law(0, 1, 1, 1), 7);
    is(x.law(0, 1, 1, -1), 5);
    is(x.law(0, 9, 0, 0), 9);
    is(x.law(0, 0, 0, 0), 1);
    is(Due.tell(x, 0, "r"), -10);
    x = twoWest();
    x.become(0, 50);
    Due.tell(x, 0, "k+f*0");
    is(x.round(0), 5 * 0 + (13 - 13) * 3);
    Due.tell(x, 0, "k-3");
    x.become(0, 40);
    is(x.round(0), 6 * 2 + 4 * 3);
    walk.says("1 VALUE: NAMES r what is READ, w WORTH, h the HEIR; held within 0 .. 9999; without a TEXT r*w"
        + " (ints that wrap; held likewise).");
    x = new FrostWills();
    is(x.law(1, 12, 34, 5), 408);
    is(x.law(1, 101, 99, 5), 9999);
    is(x.law(1, -1, 1, 5), 0);
    is(x.law(1, 65536, 65537, 0), 9999);
    is(x.law(1, 65536, 32768, 0), 0);
    is(Due.tell(x, 1, "r*100+w*10+h"), 1);
    is(x.law(1, 1, 2, 3), 123);
    is(x.law(1, 100, 0, 0), 9999);
    is(x.law(1, 0, 0, -1), 0);
    is(Due.tell(x, 1, "s"), -10);
  }

  /** Hour 7, COLD 12: 6 STROKES each that melt by 1; worths 1, 2, 3. */
  private static FrostWills threeEast() {
    FrostWills x = Due.withHeirs(2);
    x.set(1, 7);
    x.pane(0, 19, 0, 0, 1);
    x.pane(0, 19, 0, 1, 2);
    x.pane(0, 19, 0, 0, 3);
    return x;
  }

  private static void best() {
    walk.says("3. (All this is only thought.) BEST: of all ROUNDS (of 6 PANES at most) that which comes to"
        + " most; of several the first by numbers.");
    FrostWills x = threeEast();
    is(x.best(-1), 6 * 3 + 5 * 2 + 4);
    is(x.best(0), 2);
    is(x.best(1), 1);
    is(x.best(2), 0);
    is(x.has(0) + x.has(1) + x.has(-1) + x.count(5), 0);
    Due.tell(x, 1, "r");
    is(x.best(-1), 15);
    is(x.best(0) * 100 + x.best(1) * 10 + x.best(2), 12);
    x.untell(1);
    walk.says("SHARE of an HEIR: the VALUES of the BEST ROUND that are that one's, together.");
    is(x.share(0), 6 * 3 + 4);
    is(x.share(1), 5 * 2);
    walk.says("COLD FOR s STROKES of a PANE: the least COLD (0 .. 40) by which it has s or more.");
    x.become(0, 60);
    is(x.coldFor(0, 3), 0);
    is(x.coldFor(0, 5), 2);
    is(x.coldFor(0, 14), 38);
    is(x.coldFor(0, 15), Due.NONE);
    is(x.coldFor(1, 13), 40);
  }

  private static void breath() {
    walk.says("BREATH: the fewest PANES to be breathed on (nothing is LEFT of these at any hour) so that by"
        + " the ROUND by numbers an HEIR would have v or more of it; of several sets the least (bits).");
    FrostWills x = Due.withHeirs(2);
    Due.tell(x, 0, "s");
    x.pane(0, 9, 0, 0, 1);
    x.pane(0, 9, 0, 0, 1);
    x.pane(0, 19, 0, 1, 3);
    // Pane 2 is read at 18; at 13, one breathed on; at 8, both.
    is(x.breath(1, 0, 1), 0);
    is(x.breath(1, 1, 0), 2);
    is(x.breath(1, 15, 1), 3);
    is(x.breath(1, 16, 1), Due.NONE);
    is(x.breath(0, 12, 0), 0);
    Due.tell(x, 1, "(r=0)*w");
    is(x.breath(0, 1, 0), 1);
    is(x.breath(0, 1, 1), 1);
    x.names(2, 0);
    is(x.breath(0, 3, 1), 0);
    x.set(1, 0);
    is(x.breath(0, 3, 1), 4);
    is(x.breath(0, 4, 0), 2);
    is(x.breath(0, 4, 1), 5);
    is(x.breath(0, 5, 1), 7);
  }

  private static void odds() {
    walk.says("ODDS: that, COLD being 0 .. 40, each as likely, s or more STROKES are LEFT of a PANE at an"
        + " hour: a fraction in lowest terms (0 is 0 by 1).");
    FrostWills x = Due.withHeirs(1);
    x.pane(0, 10, 0, 0, 1);
    is(x.odds(0, 5, 7, 0), 21);
    is(x.odds(0, 5, 7, 1), 41);
    is(x.odds(0, 5, 8, 0), 17);
    is(x.odds(0, 0, 7, 0), 1);
    is(x.odds(0, 0, 7, 1), 1);
    is(x.odds(0, 11, 7, 0), 0);
    is(x.odds(0, 11, 7, 1), 1);
    walk.says("FITS: a SHEET tells what is LEFT of PANES 0, 1, .. at an hour: by how many COLDS (0 .. 40)"
        + " that is so; the least.");
    x.pane(60, 0, 0, 0, 1);
    Due.row(x, 0, 8, 4, 6);
    is(x.fits(0, 8, 0), 1);
    is(x.fits(0, 8, 1), 22);
    x.put(0, 1, 7);
    is(x.fits(0, 8, 0), 2);
    is(x.fits(0, 8, 1), 20);
    Due.row(x, 0, 8, 4);
    is(x.fits(0, 8, 0), 4);
    is(x.fits(0, 8, 1), 20);
    x.put(0, 0, 10);
    is(x.fits(0, 8, 0), 0);
    is(x.fits(0, 7, 1), 40);
  }

  /** Pane 2: k is 2. */
  private static FrostWills speaker(int km) {
    FrostWills x = Due.withHeirs(1);
    x.pane(0, 0, 0, 0, 0);
    x.pane(0, 0, 0, 0, 0);
    x.pane(km, 0, 0, 0, 0);
    return x;
  }

  /** What the VOICE answers, and its BODIES, two digits each. */
  private static void voice(int km, int voice, int by, int want, long bodies) {
    FrostWills x = speaker(km);
    is(x.voice(2, voice, by), want);
    long trace = 0;
    for (int i = 0; i < x.count(9); i++) {
      trace = trace * 100 + x.body(i);
    }
    is(trace, bodies);
  }

  private static void voices() {
    walk.says("4. VOICES of a PANE, with a number x (ints that wrap); k is the number, m as told: 0 ferns,"
        + " 1 stars, 2 thaws, 3 parts.");
    voice(5, 0, MOST, LEAST + 1, 10);
    voice(5, 1, MOST, 2, 1110);
    is(speaker(5).voice(1, 0, 7), 8);
    is(speaker(5).voice(2, 4, 7), Due.BEYOND);
    walk.says("BODIES: Pane: 10 ferns: x + k.");
    voice(5, 0, 7, 9, 10);
    walk.says("11 stars: ferns(x) * 2.");
    voice(5, 1, 7, 18, 1110);
    walk.says("12 thaws: stars(x) - m.");
    voice(5, 2, 7, 18 - 5, 121110);
    walk.says("13 parts: x by (m - k), cut (PARTED if that is 0; that is all that voice() answers then).");
    voice(5, 3, 7, 2, 13);
    voice(5, 3, -7, -2, 13);
    voice(1, 3, 7, -7, 13);
    voice(2, 3, 7, Due.PARTED, 13);
    voice(12, 3, 7, Due.PARTED, 2113);
  }

  private static void voicesBelow() {
    walk.says("Double: 20 ferns: super.ferns(x) - 4.");
    voice(15, 0, 7, 9 - 4, 2010);
    walk.says("21 parts: super.parts(x) + stars(1).");
    voice(15, 3, 7, 2 + (3 - 4) * 2, 2113112010L);
    walk.says("Kitchen: 30 stars: 0 - super.stars(x).");
    voice(25, 1, 7, -18, 301110);
    walk.says("Oiled: 40 thaws: super.thaws(x / 2).");
    voice(35, 2, 7, (3 + 2) * 2 - 5, 40121110);
    walk.says("Entail: 50 ferns: super.ferns(x) * 3.");
    voice(45, 0, 7, (9 - 4) * 3, 502010);
    walk.says("51 thaws: super.thaws(x) ^ k.");
    voice(45, 2, 7, (15 * 2 - 5) ^ 2, 511211502010L);
    walk.says("Lamped: 60 stars: super.stars(x + 1).");
    voice(55, 1, 7, 0 - (8 + 2) * 2, 60301110);
    walk.says("Cracked: 70 ferns: 9.");
    voice(65, 0, 7, 9, 70);
    walk.says("71 stars: super.stars(x) + m.");
    voice(65, 1, 7, 18 + 5, 711170);
    walk.says("ferns(..) is the BODY of its KIND, or of the next KIND above that has one; super.ferns(..)"
        + " that from the KIND above the BODY's on.");
    voice(25, 2, 7, -18 - 5, 12301110);
    voice(35, 0, 7, 9, 10);
    voice(45, 1, 7, 15 * 2, 11502010);
    voice(45, 3, 7, 2 + (3 - 4) * 3 * 2, 211311502010L);
    voice(55, 2, 7, -20 - 5, 1260301110L);
    voice(65, 2, 7, 23 - 5, 12711170);
    walk.says("THE TRACE: the numbers of BODIES of the latest voice() that wasn't BEYOND, as they began (what"
        + " stands left is worked out first), the first 30.");
    FrostWills x = speaker(45);
    x.voice(2, 3, 7);
    is(x.voice(3, 0, 7), Due.BEYOND);
    int[] bodies = {21, 13, 11, 50, 20, 10, Due.NONE};
    for (int i = 0; i < bodies.length; i++) {
      is(x.body(i), bodies[i]);
    }
    x.voice(0, 0, 0);
    is(x.count(9), 1);
    is(x.body(0), 10);
  }

  private static void sheets() {
    walk.says("SHEETS 0 .. 3 are rows of 8, 16, 32 bits, at most 24 numbers, or missing (as at first).");
    FrostWills x = new FrostWills();
    for (int s = 0; s <= 3; s++) {
      is(x.put(s, 0, 0), Due.NONE);
      is(x.sheet(s, 8, 24), 1);
      is(x.sheet(s, 16, 24), 1);
      is(x.sheet(s, 32, 24), 1);
      is(x.sheet(s, 24, 1), Due.BEYOND);
      is(x.sheet(s, 32, 25), Due.BEYOND);
      is(x.put(s, 23, 0), 1);
      is(x.put(s, 24, 0), Due.BEYOND);
      is(x.sheet(s, 0, 0), 1);
      is(x.put(s, 0, 0), Due.NONE);
    }
    is(x.sheet(4, 8, 1), Due.BEYOND);
    is(x.sheet(-1, 8, 1), Due.BEYOND);
  }

  /** LanguageTest looks for these lines in the class. */
  private static void theInterface() {
    walk.noCall("Ahead of the calls `heir`, `pane`, `paneIs`, `become`, `as`, `wipe`, `names`, `has`, `set`"
        + " the interface says: ---- panes, heirs.");
    walk.noCall("Ahead of the calls `feed`, `text`, `untell`, `law` the interface says: ---- texts.");
    walk.noCall("Ahead of the calls `round`, `reading`, `loose`, `seed` the interface says: ---- rounds.");
    walk.noCall("Ahead of the calls `left`, `best`, `share`, `coldFor`, `breath`, `odds`, `fits` the"
        + " interface says: ---- what would be.");
    walk.noCall("Ahead of the calls `voice`, `body`, `sheet`, `put`, `move`, `worths`, `judge`, `image`,"
        + " `restore`, `tell`, `check`, `count`, `told` the interface says: ---- voices, sheets, images,"
        + " what is told.");
  }
}
