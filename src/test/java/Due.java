/** What the tests share: they count what is not as it is due, and end with exit code 1 then. */
final class Due {
  static final int LOW = -1000000000;
  static final int BEYOND = LOW - 1;
  static final int NONE = LOW - 2;
  static final int STATE = LOW - 3;
  static final int FULL = LOW - 4;
  static final int KIND = LOW - 5;
  static final int PARTED = LOW - 6;

  private static int asked = 0;
  private static int wrong = 0;

  private Due() {}

  static void due(String call, long got, long want) {
    asked++;
    if (got != want) {
      wrong++;
      System.out.println(call + " answered " + got + ", due is " + want);
    }
  }

  /** Feeds a text's bytes to the tape: how many there are, or the first error. */
  static int write(FrostWills x, String text) {
    int answer = x.count(7);
    for (int i = 0; i < text.length(); i += 8) {
      int n = Math.min(8, text.length() - i);
      long word = 0;
      for (int b = n - 1; b >= 0; b--) {
        word = word << 8 | text.charAt(i + b);
      }
      answer = x.feed(word, n);
      if (answer < LOW) {
        return answer;
      }
    }
    return answer;
  }

  static int tell(FrostWills x, int use, String text) {
    write(x, text);
    return x.text(use);
  }

  /** A sheet with these numbers. */
  static void row(FrostWills x, int sheet, int bits, int... numbers) {
    due("sheet", x.sheet(sheet, bits, numbers.length), 1);
    for (int i = 0; i < numbers.length; i++) {
      due("put", x.put(sheet, i, numbers[i]), 1);
    }
  }

  static FrostWills withHeirs(int n) {
    FrostWills x = new FrostWills();
    for (int i = 0; i < n; i++) {
      due("heir", x.heir(), i);
    }
    return x;
  }

  static void end(String test) {
    System.out.println(test + ": " + asked + " asked, " + wrong + " not as due");
    if (wrong != 0) {
      System.exit(1);
    }
  }
}
