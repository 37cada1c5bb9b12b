/** Promises 26 and 27: voices, the trace. */
public final class VoicesTest {
  private static void due(String call, long got, long want) {
    Due.due(call, got, want);
  }

  public static void main(String[] args) {
    allVoices();
    parted();
    errors();
    anyNumber();
    Due.end("VoicesTest");
  }

  private static FrostWills withThree(int km) {
    FrostWills x = Due.withHeirs(1);
    x.pane(0, 0, 0, 0, 0);
    x.pane(0, 0, 0, 0, 0);
    x.pane(km, 0, 0, 0, 0);
    return x;
  }

  /** Of pane 2, with m 5. */
  private static void says(int kind, int voice, int x, int want, int... trace) {
    FrostWills w = withThree(10 * kind + 5);
    String call = "voice " + voice + " of kind " + kind;
    due(call, w.voice(2, voice, x), want);
    due(call + " bodies", w.count(9), trace.length);
    for (int i = 0; i < trace.length; i++) {
      due(call + " body " + i, w.body(i), trace[i]);
    }
    due(call + " no more", w.body(trace.length), Due.NONE);
  }

  private static void allVoices() {
    says(0, 0, 7, 9, 10);
    says(0, 1, 7, 18, 11, 10);
    says(0, 2, 7, 13, 12, 11, 10);
    says(0, 3, 7, 2, 13);
    says(0, 3, -7, -2, 13);
    says(1, 0, 7, 5, 20, 10);
    says(1, 1, 7, 10, 11, 20, 10);
    says(1, 2, 7, 5, 12, 11, 20, 10);
    says(1, 3, 7, 0, 21, 13, 11, 20, 10);
    says(2, 0, 7, 9, 10);
    says(2, 1, 7, -18, 30, 11, 10);
    says(2, 2, 7, -23, 12, 30, 11, 10);
    says(2, 3, 7, 2, 13);
    says(3, 0, 7, 9, 10);
    says(3, 1, 7, 18, 11, 10);
    says(3, 2, 7, 5, 40, 12, 11, 10);
    says(3, 2, -7, -7, 40, 12, 11, 10);
    says(3, 3, 7, 2, 13);
    says(4, 0, 7, 15, 50, 20, 10);
    says(4, 1, 7, 30, 11, 50, 20, 10);
    says(4, 2, 7, 27, 51, 12, 11, 50, 20, 10);
    says(4, 2, 8, 31 ^ 2, 51, 12, 11, 50, 20, 10);
    says(4, 3, 7, -4, 21, 13, 11, 50, 20, 10);
    says(5, 0, 7, 9, 10);
    says(5, 1, 7, -20, 60, 30, 11, 10);
    says(5, 2, 7, -25, 12, 60, 30, 11, 10);
    says(5, 3, 7, 2, 13);
    says(6, 0, 100, 9, 70);
    says(6, 1, 100, 23, 71, 11, 70);
    says(6, 2, 100, 18, 12, 71, 11, 70);
    says(6, 3, 7, 2, 13);
  }

  private static void parted() {
    FrostWills x = withThree(2);
    x.voice(2, 2, 0);
    due("bodies", x.count(9), 3);
    due("parted", x.voice(2, 3, 7), Due.PARTED);
    due("bodies", x.count(9), 1);
    due("body", x.body(0), 13);
    x.become(2, 12);
    due("parted double", x.voice(2, 3, 7), Due.PARTED);
    due("bodies", x.count(9), 2);
    due("body 0", x.body(0), 21);
    due("body 1", x.body(1), 13);
    due("told PARTED", x.told(6), 2);
    x.become(2, 13);
    due("whole again", x.voice(2, 3, 7), 7 - 2);
  }

  private static void errors() {
    FrostWills x = withThree(0);
    due("body ahead of all", x.body(0), Due.NONE);
    x.voice(2, 1, 7);
    due("voice -1", x.voice(2, -1, 0), Due.BEYOND);
    due("voice 4", x.voice(2, 4, 0), Due.BEYOND);
    due("pane 3", x.voice(3, 0, 0), Due.BEYOND);
    due("pane -1", x.voice(-1, 0, 0), Due.BEYOND);
    due("told", x.told(1), 4);
    due("the trace stays", x.count(9), 2);
    due("body 0", x.body(0), 11);
    due("body 1", x.body(1), 10);
    due("body 2", x.body(2), Due.NONE);
    due("body -1", x.body(-1), Due.NONE);
    due("body 30", x.body(30), Due.NONE);
    due("told NONE", x.told(2), 4);
  }

  private static void anyNumber() {
    FrostWills x = withThree(1);
    due("wraps", x.voice(2, 0, Integer.MAX_VALUE), Integer.MIN_VALUE + 1);
    due("stars wrap", x.voice(2, 1, 1 << 30), 4 + Integer.MIN_VALUE);
    due("by -1", x.voice(2, 3, Integer.MIN_VALUE), Integer.MIN_VALUE);
    due("no error, though it looks like one", x.voice(0, 0, Due.BEYOND), Due.BEYOND);
    for (int k = 1; k <= 6; k++) {
      due("told " + k, x.told(k), 0);
    }
  }
}
