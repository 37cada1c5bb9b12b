/** Terms, 2, and promises 11 to 14: each edge of the grammar, of FAULT, of what texts work out. */
public final class TextEdgesTest {
  private static final String DIGITS = "0123456789";
  private static final String SIGNS = "|&<=>+-*/%";
  private static final String NOT_COMPARED = "|&+-*/%";
  private static final String[] NAMES = {"sfk", "rwh"};
  private static final String SUMS = "1+1+1+1+1+1+1+1+1+1+1+1+1+1+1+1+1+1+1+1+1+1+1+1+1+1+1+1+1+";

  public static void main(String[] args) {
    whereAPartIsDue();
    behindNumbers();
    behindNames();
    behindCompared();
    withinBrackets();
    whatIsOpen();
    allThatMayBeOpen();
    endsTooEarly();
    theFirstFault();
    ofSixtyBytes();
    feedsLowestFirst();
    whatATextLeaves();
    numbers();
    byNothing();
    cuts();
    wraps();
    compares();
    truths();
    binds();
    deepest();
    tookHeld();
    valueHeld();
    Due.end("TextEdgesTest");
  }

  private static void due(String call, long got, long want) {
    Due.due(call, got, want);
  }

  /**
   * For each byte behind what stands ahead, for both USES: with some it is a whole TEXT, with some
   * a TEXT goes on, with all others there is the FAULT. Ahead s, f, k are told, N is all NAMES.
   */
  private static void behind(String ahead, String whole, String goesOn) {
    for (int use = 0; use <= 1; use++) {
      String start = inNamesOf(use, ahead);
      String good = inNamesOf(use, whole);
      String on = inNamesOf(use, goesOn);
      for (int b = 0; b < 256; b++) {
        FrostWills x = new FrostWills();
        Due.write(x, start);
        x.feed(b, 1);
        int place = on.indexOf(b) >= 0 ? start.length() + 1 : start.length();
        int want = good.indexOf(b) >= 0 ? 1 : -10 - place;
        due("text " + use + " of " + start + " and byte " + b, x.text(use), want);
        due("the tape", x.count(7), 0);
      }
    }
  }

  private static String inNamesOf(int use, String text) {
    String names = NAMES[use];
    return text.replace("N", "sfk").replace('s', names.charAt(0)).replace('f', names.charAt(1))
        .replace('k', names.charAt(2));
  }

  private static void whereAPartIsDue() {
    behind("", DIGITS + "N", "!(");
    behind("!", DIGITS + "N", "!(");
    behind("(", "", DIGITS + "N!(");
    behind("s-f+(", "", DIGITS + "N!(");
    for (int i = 0; i < SIGNS.length(); i++) {
      behind("1" + SIGNS.charAt(i), DIGITS + "N", "!(");
      behind("k" + SIGNS.charAt(i), DIGITS + "N", "!(");
    }
  }

  /** 1 to 4 digits. */
  private static void behindNumbers() {
    behind("1", DIGITS, SIGNS);
    behind("00", DIGITS, SIGNS);
    behind("999", DIGITS, SIGNS);
    behind("9999", "", SIGNS);
    behind("0000", "", SIGNS);
    behind("s+123", DIGITS, SIGNS);
    behind("s+1234", "", SIGNS);
    behind("1234+1234", "", SIGNS);
    behind("!1234", "", SIGNS);
  }

  private static void behindNames() {
    behind("s", "", SIGNS);
    behind("f", "", SIGNS);
    behind("k", "", SIGNS);
    behind("!s", "", SIGNS);
    behind("1*f", "", SIGNS);
  }

  /** One comparison a B; the next B, or what is in brackets, may have another. */
  private static void behindCompared() {
    for (String sign : new String[] {"<", "=", ">"}) {
      behind("1" + sign + "2", DIGITS, NOT_COMPARED);
      behind("s" + sign + "f", "", NOT_COMPARED);
      behind("s" + sign + "f+k", "", NOT_COMPARED);
      behind("s" + sign + "f*k", "", NOT_COMPARED);
      behind("s+f" + sign + "!k", "", NOT_COMPARED);
      behind("s" + sign + "f&k", "", SIGNS);
      behind("s" + sign + "f|k", "", SIGNS);
      behind("s&f" + sign + "k", "", NOT_COMPARED);
      behind("s|f" + sign + "k", "", NOT_COMPARED);
      behind("(s" + sign + "f)", "", SIGNS);
      behind("s=(f" + sign + "k)", "", NOT_COMPARED);
      behind("s=(f", ")", SIGNS);
      behind("(s" + sign + "f", ")", NOT_COMPARED);
      behind("((s" + sign + "f)", ")", SIGNS);
    }
  }

  private static void withinBrackets() {
    behind("(1", ")", DIGITS + SIGNS);
    behind("(s", ")", SIGNS);
    behind("((s", "", SIGNS + ")");
    behind("((s)", ")", SIGNS);
    behind("((s))", "", SIGNS);
    behind("(s)", "", SIGNS);
    behind("!(s", ")", SIGNS);
    behind("!(s)", "", SIGNS);
    behind("(!s", ")", SIGNS);
    behind("(s)+(f", ")", SIGNS);
    behind("(s)+(f)", "", SIGNS);
  }

  /** 5 of ! and ( at most; a ! is open until its Q is there, a ( until its ). */
  private static void whatIsOpen() {
    behind("!!!!", DIGITS + "N", "!(");
    behind("!!!!!", DIGITS + "N", "");
    behind("((((", "", DIGITS + "N!(");
    behind("(((((", "", DIGITS + "N");
    behind("((((!", "", DIGITS + "N");
    behind("!((((", "", DIGITS + "N");
    behind("!(!(!", "", DIGITS + "N");
    behind("!!!!(", "", DIGITS + "N");
    behind("!!!!!s", "", SIGNS);
    behind("!!!!!s+", DIGITS + "N", "!(");
    behind("!!!!!s+!!!!", DIGITS + "N", "!(");
    behind("!!!!!s+!!!!!", DIGITS + "N", "");
    behind("(((((s", "", SIGNS + ")");
    behind("(((((s+", "", DIGITS + "N");
    behind("(((((s)+", "", DIGITS + "N!(");
    behind("(((((s)+(", "", DIGITS + "N");
    behind("(((((s)))))", "", SIGNS);
    behind("(((((s)))))+", DIGITS + "N", "!(");
    behind("((((!s", "", SIGNS + ")");
    behind("((((!s+", "", DIGITS + "N!(");
    behind("((((!s+!", "", DIGITS + "N");
    behind("!(!(s", "", SIGNS + ")");
    behind("!(!(s)", ")", SIGNS);
    behind("!(!(s)+!!!", "", DIGITS + "N");
    behind("!(!(s)+!!", "", DIGITS + "N!(");
    behind("!!!(s)+!!!!", DIGITS + "N", "!(");
  }

  private static String opened(int which, int many, boolean shut) {
    StringBuilder open = new StringBuilder();
    StringBuilder close = new StringBuilder();
    for (int i = 0; i < many; i++) {
      boolean bracket = (which >> i & 1) == 1;
      open.append(bracket ? '(' : '!');
      close.append(bracket ? ")" : "");
    }
    return shut ? open + "7" + close : open.toString();
  }

  /** Each way in which 5 may be open is taken, none in which 6 would be. */
  private static void allThatMayBeOpen() {
    for (int which = 0; which < 64; which++) {
      FrostWills x = new FrostWills();
      String five = opened(which, 5, true);
      due("text of " + five, Due.tell(x, 1, five), 1);
      int nots = 5 - Integer.bitCount(which & 31);
      due("law of " + five, x.law(1, 0, 0, 0), nots == 0 ? 7 : 1 - nots % 2);
      String six = opened(which, 6, true);
      due("text of " + six, Due.tell(x, 1, six), -15);
      String again = five + "+" + opened(which, 6, true);
      due("text of " + again, Due.tell(x, 1, again), -10 - five.length() - 6);
    }
  }

  /** How many bytes there are, if a TEXT could go on but ends. */
  private static void endsTooEarly() {
    String text = "!(s+12<f*3)|k%(9-!s)&1/((2=f)-4096)>k";
    for (int n = 0; n <= text.length(); n++) {
      String part = text.substring(0, n);
      int open = part.replace("(", "").length() - part.replace(")", "").length();
      boolean ended = n > 0 && (DIGITS + "sfk)").indexOf(part.charAt(n - 1)) >= 0;
      FrostWills x = new FrostWills();
      due("text of " + part, Due.tell(x, 0, part), open == 0 && ended ? 1 : -10 - n);
    }
    FrostWills x = new FrostWills();
    due("an empty tape", x.text(0), -10);
    due("an empty tape", x.text(1), -10);
  }

  private static void theFirstFault() {
    FrostWills x = new FrostWills();
    due("two faults", Due.tell(x, 0, "1++2++3"), -12);
    due("a fault, and too early", Due.tell(x, 0, "(1 +"), -12);
    due("too many digits, and too early", Due.tell(x, 0, "(12345"), -15);
    due("too much open, and too early", Due.tell(x, 0, "(((((((("), -15);
    due("a blank ahead", Due.tell(x, 0, " 1"), -10);
    due("a blank behind", Due.tell(x, 0, "1 "), -11);
    due("a name of the other use", Due.tell(x, 0, "s+f+k+r"), -16);
    due("a name of the other use", Due.tell(x, 1, "r+w+h+s"), -16);
    due("capitals", Due.tell(x, 1, "1+R"), -12);
    due("a lone sign", Due.tell(x, 1, "-5"), -10);
    due("a lone )", Due.tell(x, 1, ")"), -10);
    due("a text behind a text", Due.tell(x, 1, "(r)(w)"), -13);
    due("no error", x.told(1), 0);
  }

  /** The TAPE holds 60: the last byte's FAULT is at 59, and it ends too early at 60. */
  private static void ofSixtyBytes() {
    FrostWills x = new FrostWills();
    due("58 bytes and two", Due.tell(x, 1, SUMS + "22"), 1);
    due("29 and 22", x.law(1, 0, 0, 0), 29 + 22);
    due("bytes", Due.write(x, SUMS + "2+"), 60);
    due("ends too early", x.text(1), -70);
    due("the last byte", Due.tell(x, 1, SUMS + "2)"), -69);
    due("the last but one", Due.tell(x, 1, SUMS + ")2"), -68);
    due("the first", Due.tell(x, 1, ")" + SUMS + "2"), -10);
    due("29 and 22 still", x.law(1, 0, 0, 0), 29 + 22);
    due("bytes", Due.write(x, SUMS + "22"), 60);
    due("no more", x.feed('1', 1), Due.FULL);
    due("as it was", x.text(0), 1);
    due("held", x.law(0, 0, 0, 0), 9);
    due("there is room again", x.feed('1', 8), 8);
  }

  /** Of "1+2+4+8+", and of bytes above what is fed. */
  private static void feedsLowestFirst() {
    int[] want = {1, -12, 3, -14, 7, -16, 15, -18};
    for (int n = 1; n <= 8; n++) {
      FrostWills x = new FrostWills();
      due("feed " + n, x.feed(0x2B382B342B322B31L, n), n);
      int text = x.text(1);
      due("text of " + n, text < 0 ? text : x.law(1, 0, 0, 0), want[n - 1]);
    }
    FrostWills x = new FrostWills();
    due("all eight", x.feed(0xFF37363534333231L, 8), 8);
    due("not above four digits", x.text(1), -14);
    x.feed(0xFF312B312B312B31L, 7);
    due("seven of eight", x.text(1), 1);
    x.feed(0xB12B312B312B3131L, 8);
    due("the eighth, of 177", x.text(1), -17);
    x.feed(-1L, 8);
    due("255 is no sign", x.text(1), -10);
    x.feed('1', 1);
    x.feed('+', 1);
    x.feed('2', 1);
    due("one by one", x.text(1), 1);
    due("three", x.law(1, 0, 0, 0), 3);
  }

  /** Promise 12: what stands, and what is gone, behind each answer. */
  private static void whatATextLeaves() {
    FrostWills x = new FrostWills();
    due("a fault, none ahead", Due.tell(x, 0, "r"), -10);
    due("still none", x.untell(0), 0);
    due("a text", Due.tell(x, 0, "2"), 1);
    due("a fault", Due.tell(x, 0, "2+"), -12);
    due("the one ahead stays", x.law(0, 0, 0, 0), 2);
    due("the tape is empty", x.count(7), 0);
    due("of an empty tape", x.text(0), -10);
    due("the one ahead stays", x.law(0, 0, 0, 0), 2);
    due("in its place", Due.tell(x, 0, "3"), 1);
    due("that one", x.law(0, 0, 0, 0), 3);
    due("the tape is empty", x.count(7), 0);
    due("the other use has none", x.untell(1), 0);
    Due.write(x, "w");
    due("no such use", x.text(2), Due.BEYOND);
    due("the tape stays", x.count(7), 1);
    due("no name of that use", x.text(0), -10);
    due("and it is gone", x.count(7), 0);
    due("a text", Due.tell(x, 1, "w"), 1);
    due("there was one", x.untell(1), 1);
    due("there was none", x.untell(1), 0);
    due("there was one", x.untell(0), 1);
    due("as without a text", x.law(0, 5, 5, 5), 1);
    due("as without a text", x.law(1, 5, 6, 7), 30);
    due("a text that is 0 is one", Due.tell(x, 0, "0"), 1);
    due("there was one", x.untell(0), 1);
  }

  private static void gives(String text, int r, int w, int h, int want) {
    FrostWills x = new FrostWills();
    due("text " + text, Due.tell(x, 1, text), 1);
    due("law of " + text + " by " + r + ", " + w + ", " + h, x.law(1, r, w, h), want);
  }

  private static void numbers() {
    gives("0", 5, 5, 5, 0);
    gives("9", 5, 5, 5, 9);
    gives("0000", 5, 5, 5, 0);
    gives("0009", 5, 5, 5, 9);
    gives("10", 5, 5, 5, 10);
    gives("9999", 5, 5, 5, 9999);
    gives("9999-9998", 5, 5, 5, 1);
  }

  private static void byNothing() {
    for (int v : new int[] {7, -7, 0, Integer.MIN_VALUE, Integer.MAX_VALUE}) {
      gives("r/w=0", v, 0, 0, 1);
      gives("r%w=0", v, 0, 0, 1);
      gives("(r/0=0)+(r%0=0)", v, 0, 0, 2);
      gives("(0/r=0)+(0%r=0)", v, 0, 0, 2);
    }
    gives("5+7/0*3+1", 0, 0, 0, 6);
    gives("5+7%0*3+1", 0, 0, 0, 6);
    gives("9/(r-w)", 4, 4, 0, 0);
    gives("1|5/0", 0, 0, 0, 1);
    gives("0&5%0", 0, 0, 0, 0);
  }

  /** Toward 0, and the rest that it leaves. */
  private static void cuts() {
    gives("r/w=3", 7, 2, 0, 1);
    gives("r/w=0-3", -7, 2, 0, 1);
    gives("r/w=0-3", 7, -2, 0, 1);
    gives("r/w=3", -7, -2, 0, 1);
    gives("r/w=0", -1, 2, 0, 1);
    gives("r%w=1", 7, 2, 0, 1);
    gives("r%w=0-1", -7, 2, 0, 1);
    gives("r%w=1", 7, -2, 0, 1);
    gives("r%w=0-1", -7, -2, 0, 1);
    gives("r%w=0", -8, 4, 0, 1);
  }

  private static void wraps() {
    int least = Integer.MIN_VALUE;
    int most = Integer.MAX_VALUE;
    gives("r+w=h", most, 1, least, 1);
    gives("r+w=h", least, -1, most, 1);
    gives("r-w=h", least, 1, most, 1);
    gives("r-w=h", most, -1, least, 1);
    gives("0-r=r", least, 0, 0, 1);
    gives("r*w=h", most, 2, -2, 1);
    gives("r*w=h", least, -1, least, 1);
    gives("r*w=0", 65536, 65536, 0, 1);
    gives("9999*9999*9999=h", 0, 0, (int) (9999L * 9999 * 9999), 1);
    gives("r/w=r", least, -1, 0, 1);
    gives("r%w=0", least, -1, 0, 1);
  }

  private static void compares() {
    int least = Integer.MIN_VALUE;
    int most = Integer.MAX_VALUE;
    int[][] pairs = {{1, 2}, {2, 2}, {3, 2}, {least, most}, {most, least}, {least, least}, {-1, 0}, {0, -1}};
    for (int[] p : pairs) {
      gives("r<w", p[0], p[1], 0, p[0] < p[1] ? 1 : 0);
      gives("r=w", p[0], p[1], 0, p[0] == p[1] ? 1 : 0);
      gives("r>w", p[0], p[1], 0, p[0] > p[1] ? 1 : 0);
    }
    gives("3<2", 0, 0, 0, 0);
    gives("2>3", 0, 0, 0, 0);
  }

  /** What is not 0 is true, and what is true is 1. */
  private static void truths() {
    for (int v : new int[] {1, 2, -1, Integer.MIN_VALUE, Integer.MAX_VALUE}) {
      gives("r|0", v, 0, 0, 1);
      gives("0|r", v, 0, 0, 1);
      gives("r&0", v, 0, 0, 0);
      gives("0&r", v, 0, 0, 0);
      gives("r&r", v, 0, 0, 1);
      gives("!r", v, 0, 0, 0);
      gives("!!r", v, 0, 0, 1);
    }
    gives("r&w", 1, 2, 0, 1);
    gives("r|w", 0, 0, 0, 0);
    gives("r&w", 0, 0, 0, 0);
    gives("!r", 0, 0, 0, 1);
    gives("!!r", 0, 0, 0, 0);
  }

  /** Which sign binds, and which of several comes first. */
  private static void binds() {
    gives("1+!0", 0, 0, 0, 2);
    gives("5-!3-!0*2", 0, 0, 0, 3);
    gives("2<!0", 0, 0, 0, 0);
    gives("!1|1", 0, 0, 0, 1);
    gives("!(1|1)", 0, 0, 0, 0);
    gives("!1=0", 0, 0, 0, 1);
    gives("!0+1", 0, 0, 0, 2);
    gives("!2*0", 0, 0, 0, 0);
    gives("!(2*0)", 0, 0, 0, 1);
    gives("9-4-3", 0, 0, 0, 2);
    gives("9-(4-3)", 0, 0, 0, 8);
    gives("9-4+3", 0, 0, 0, 8);
    gives("80/4/2", 0, 0, 0, 10);
    gives("80/(4/2)", 0, 0, 0, 40);
    gives("7%4*2", 0, 0, 0, 6);
    gives("2*7%4", 0, 0, 0, 2);
    gives("9/2*2", 0, 0, 0, 8);
    gives("9-2*3", 0, 0, 0, 3);
    gives("9+8%3", 0, 0, 0, 11);
    gives("3>1+1", 0, 0, 0, 1);
    gives("1+(3>1)", 0, 0, 0, 2);
    gives("1<2&3>2", 0, 0, 0, 1);
    gives("2&1=2", 0, 0, 0, 0);
    gives("1|1&0", 0, 0, 0, 1);
    gives("0&1|1", 0, 0, 0, 1);
    gives("0|0=0", 0, 0, 0, 1);
  }

  /** 1, if r is above 0, through four brackets and each sign that waits outside. */
  private static void deepest() {
    String out = "0|1&1<1+1*(";
    String text = out + out + out + out + "0|1&0<r" + "))))";
    due("bytes", text.length(), 55);
    gives(text, 5, 0, 0, 1);
    gives(text, 0, 0, 0, 0);
    gives(text, Integer.MIN_VALUE, 0, 0, 0);
    gives("r+(w+(h+(1+(2+(3)))))", 100, 20, 3, 129);
  }

  private static void tookHeld() {
    FrostWills x = new FrostWills();
    int[] any = {Integer.MIN_VALUE, -1, 0, 1, 9, 10, Integer.MAX_VALUE};
    for (int v : any) {
      due("without a text", x.law(0, v, v, v), 1);
    }
    int[] want = {1, 1, 1, 1, 9, 9, 9};
    String names = "sfk";
    for (int n = 0; n < 3; n++) {
      Due.tell(x, 0, names.substring(n, n + 1));
      for (int i = 0; i < any.length; i++) {
        due("law of " + names.charAt(n), x.law(0, n == 0 ? any[i] : 5, n == 1 ? any[i] : 5,
            n == 2 ? any[i] : 5), want[i]);
      }
      due("2", x.law(0, 2, 2, 2), 2);
      due("8", x.law(0, 8, 8, 8), 8);
    }
  }

  private static void valueHeld() {
    FrostWills x = new FrostWills();
    int[] any = {Integer.MIN_VALUE, -1, 0, 1, 9998, 9999, 10000, Integer.MAX_VALUE};
    int[] want = {0, 0, 0, 1, 9998, 9999, 9999, 9999};
    for (int i = 0; i < any.length; i++) {
      due("without a text, r", x.law(1, any[i], 1, 7), want[i]);
      due("without a text, w", x.law(1, 1, any[i], 7), want[i]);
    }
    due("wraps below 0", x.law(1, 46341, 46341, 0), 0);
    due("as far as it goes", x.law(1, 46340, 46340, 0), 9999);
    due("wraps to 1", x.law(1, Integer.MAX_VALUE, Integer.MAX_VALUE, 0), 1);
    due("wraps to 0", x.law(1, Integer.MIN_VALUE, 2, 0), 0);
    String names = "rwh";
    for (int n = 0; n < 3; n++) {
      Due.tell(x, 1, names.substring(n, n + 1));
      for (int i = 0; i < any.length; i++) {
        due("law of " + names.charAt(n), x.law(1, n == 0 ? any[i] : 5, n == 1 ? any[i] : 5,
            n == 2 ? any[i] : 5), want[i]);
      }
    }
  }
}
