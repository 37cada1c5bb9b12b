/** Promises 11 to 14: the tape, texts, laws. */
public final class TextsTest {
  private static void due(String call, long got, long want) {
    Due.due(call, got, want);
  }

  public static void main(String[] args) {
    feed();
    text();
    faults();
    opens();
    untell();
    law();
    signs();
    Due.end("TextsTest");
  }

  private static void feed() {
    FrostWills x = new FrostWills();
    due("feed 0 bytes", x.feed(0L, 0), Due.BEYOND);
    due("feed -1", x.feed(0L, -1), Due.BEYOND);
    due("feed 9", x.feed(0L, 9), Due.BEYOND);
    due("told", x.told(1), 3);
    due("empty", x.count(7), 0);
    // The lowest byte comes first: "1+2", then what stands above it is not fed.
    due("feed 1+2", x.feed(0x7F7F322B31L, 3), 3);
    due("text", x.text(0), 1);
    due("law", x.law(0, 0, 0, 0), 3);
    due("feed 8", x.feed(0x3131313131313131L, 8), 8);
    due("feed 1", x.feed(-1L, 1), 9);
    due("count 7", x.count(7), 9);
    due("fault", x.text(0), -14);
    for (int i = 1; i <= 7; i++) {
      due("feed", x.feed(0L, 8), 8 * i);
    }
    due("feed over", x.feed(0L, 5), Due.FULL);
    due("beyond ahead of full", x.feed(0L, 9), Due.BEYOND);
    due("bytes", x.count(7), 56);
    due("feed to 60", x.feed(0L, 4), 60);
    due("feed 61", x.feed(0L, 1), Due.FULL);
    due("told FULL", x.told(4), 2);
    due("bytes", x.count(7), 60);
    due("fault 0", x.text(0), -10);
    due("empty", x.count(7), 0);
    // A byte is no sign that only looks like it in its lowest bits.
    due("feed", x.feed(0xB1L, 1), 1);
    due("fault", x.text(0), -10);
  }

  private static void text() {
    FrostWills x = new FrostWills();
    due("write", Due.write(x, "s+f*k"), 5);
    due("text 2", x.text(2), Due.BEYOND);
    due("text -1", x.text(-1), Due.BEYOND);
    due("told", x.told(1), 2);
    due("the tape stays", x.count(7), 5);
    due("text 0", x.text(0), 1);
    due("empty", x.count(7), 0);
    due("law", x.law(0, 1, 2, 3), 7);
    due("other use", x.law(1, 1, 2, 3), 2);
    due("fault", Due.tell(x, 0, "s+"), -12);
    due("empty, too", x.count(7), 0);
    due("the one ahead stays", x.law(0, 1, 2, 3), 7);
    due("fault of nothing", x.text(0), -10);
    due("stays", x.law(0, 1, 2, 3), 7);
    due("in place", Due.tell(x, 0, "k"), 1);
    due("law", x.law(0, 1, 2, 3), 3);
    due("no error", x.told(1), 2);
    String sixty = "1+1+1+1+1+1+1+1+1+1+1+1+1+1+1+1+1+1+1+1+1+1+1+1+1+1+1+1+1+11";
    due("sixty", sixty.length(), 60);
    due("text of 60", Due.tell(x, 1, sixty), 1);
    due("law", x.law(1, 0, 0, 0), 40);
    due("a sign too many", Due.tell(x, 1, sixty.substring(0, 58) + "++"), -68);
    due("ends too early", Due.tell(x, 1, sixty.substring(0, 58) + "1+"), -70);
  }

  private static void fault(String text, int use, int place) {
    FrostWills x = new FrostWills();
    due("fault of " + text, Due.tell(x, use, text), -10 - place);
  }

  private static void faults() {
    fault("", 0, 0);
    fault("+", 0, 0);
    fault("-1", 0, 0);
    fault("1 +2", 0, 1);
    fault("12345", 0, 4);
    fault("1+12345", 0, 6);
    fault("r", 0, 0);
    fault("w", 0, 0);
    fault("h", 0, 0);
    fault("s", 1, 0);
    fault("f", 1, 0);
    fault("k", 1, 0);
    fault("s+r", 0, 2);
    fault("sf", 0, 1);
    fault("1s", 0, 1);
    fault("s1", 0, 1);
    fault("1<2<3", 0, 3);
    fault("1=2>3", 0, 3);
    fault("(1<2<3", 0, 4);
    fault("(1", 0, 2);
    fault("1)", 0, 1);
    fault("()", 0, 1);
    fault("(1))", 0, 3);
    fault("(1)(2)", 0, 3);
    fault("!", 0, 1);
    fault("1!", 0, 1);
    fault("!!)", 0, 2);
    fault("1||2", 0, 2);
    fault("1|", 0, 2);
    fault("1&&2", 0, 2);
    fault("1*/2", 0, 2);
    fault("1<", 0, 2);
    fault("1<=2", 0, 2);
    fault("S", 0, 0);
  }

  private static void opens() {
    FrostWills x = new FrostWills();
    due("5 (", Due.tell(x, 0, "(((((7)))))"), 1);
    due("law", x.law(0, 0, 0, 0), 7);
    due("6 (", Due.tell(x, 0, "((((((7))))))"), -15);
    due("5 !", Due.tell(x, 0, "!!!!!7+1"), 1);
    due("law", x.law(0, 0, 0, 0), 1);
    due("6 !", Due.tell(x, 0, "!!!!!!7"), -15);
    due("mixed 5", Due.tell(x, 0, "!(!(!s))"), 1);
    due("mixed 6", Due.tell(x, 0, "!(!(!(!s)))"), -15);
    due("one after the other", Due.tell(x, 0, "!!!!!s+!!!!!s+(((((s)))))"), 1);
    due("! is shut behind its part", Due.tell(x, 0, "((((!s+!f+(k)))))"), 1);
  }

  private static void untell() {
    FrostWills x = new FrostWills();
    due("untell none", x.untell(0), 0);
    Due.tell(x, 0, "5");
    Due.tell(x, 1, "6");
    due("untell 2", x.untell(2), Due.BEYOND);
    due("untell -1", x.untell(-1), Due.BEYOND);
    due("told", x.told(1), 2);
    due("untell 0", x.untell(0), 1);
    due("again", x.untell(0), 0);
    due("law 0", x.law(0, 3, 3, 3), 1);
    due("law 1", x.law(1, 3, 3, 3), 6);
    due("untell 1", x.untell(1), 1);
    due("law 1", x.law(1, 3, 3, 3), 9);
  }

  private static void law() {
    FrostWills x = new FrostWills();
    due("law 2", x.law(2, 0, 0, 0), Due.BEYOND);
    due("law -1", x.law(-1, 0, 0, 0), Due.BEYOND);
    due("told", x.told(1), 2);
    due("r*w", x.law(1, 99, 101, 5), 9999);
    due("r*w held", x.law(1, 100, 100, 0), 9999);
    due("r*w below", x.law(1, -1, 5, 0), 0);
    due("r*w wraps to 0", x.law(1, 65536, 65536, 0), 0);
    due("r*w wraps", x.law(1, 65537, 65537, 0), 9999);
    due("r*w wraps below", x.law(1, 65536, 32768, 0), 0);
    Due.tell(x, 0, "s*100+f*10+k");
    due("took low", x.law(0, 0, 0, 0), 1);
    due("took", x.law(0, 0, 0, 8), 8);
    due("took 9", x.law(0, 0, 1, -1), 9);
    due("took high", x.law(0, 0, 1, 0), 9);
    due("took s", x.law(0, 1, -9, -5), 5);
    due("took below", x.law(0, -2147483648, 5, 5), 9);
    Due.tell(x, 1, "r*100+w*10+h");
    due("value", x.law(1, 1, 2, 3), 123);
    due("value high", x.law(1, 100, 0, 0), 9999);
    due("value 9999", x.law(1, 99, 9, 9), 9999);
    due("value low", x.law(1, -1, 0, 0), 0);
  }

  private static void gives(String text, int r, int w, int h, int want) {
    FrostWills x = new FrostWills();
    due("text " + text, Due.tell(x, 1, text), 1);
    due("law of " + text, x.law(1, r, w, h), want);
  }

  private static void signs() {
    gives("0012", 0, 0, 0, 12);
    gives("9999", 0, 0, 0, 9999);
    gives("10-3-2", 0, 0, 0, 5);
    gives("100/5/2", 0, 0, 0, 10);
    gives("2+3*4", 0, 0, 0, 14);
    gives("(2+3)*4", 0, 0, 0, 20);
    gives("17%10*3", 0, 0, 0, 21);
    gives("r/w+5", -7, 2, 0, 2);
    gives("r%w+5", -7, 2, 0, 4);
    gives("r/w", 7, 0, 0, 0);
    gives("r%w", 7, 0, 0, 0);
    gives("r/w<0", Integer.MIN_VALUE, -1, 0, 1);
    gives("r%w=0", Integer.MIN_VALUE, -1, 0, 1);
    gives("r+w<0", Integer.MAX_VALUE, 1, 0, 1);
    gives("r-w>0", Integer.MIN_VALUE, 1, 0, 1);
    gives("r*w=1", 0x7FFFFFFF, 0x7FFFFFFF, 0, 1);
    gives("1<2", 0, 0, 0, 1);
    gives("2<2", 0, 0, 0, 0);
    gives("2=2", 0, 0, 0, 1);
    gives("2=3", 0, 0, 0, 0);
    gives("3>2", 0, 0, 0, 1);
    gives("2>2", 0, 0, 0, 0);
    gives("1+1=2", 0, 0, 0, 1);
    gives("1&1=1", 0, 0, 0, 1);
    gives("2&5", 0, 0, 0, 1);
    gives("2&0", 0, 0, 0, 0);
    gives("0|7", 0, 0, 0, 1);
    gives("0|0", 0, 0, 0, 0);
    gives("1|0&0", 0, 0, 0, 1);
    gives("(1|0)&0", 0, 0, 0, 0);
    gives("r|0", -5, 0, 0, 1);
    gives("!0+5", 0, 0, 0, 6);
    gives("!7+5", 0, 0, 0, 5);
    gives("!!7", 0, 0, 0, 1);
    gives("!r*3", 0, 0, 0, 3);
    gives("(r>2)*(w<3)*h", 3, 2, 77, 77);
    gives("(1<2)<3", 0, 0, 0, 1);
    gives("0&1/0|1", 0, 0, 0, 1);
  }
}
