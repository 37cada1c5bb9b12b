import java.io.IOException;
import java.nio.file.Files;
import java.nio.file.Path;

/**
 * Goes through ../shared/DOC.md from one place to another, sentence by sentence, none left out; what
 * stands between one sentence and the next asks calls that would tell if the sentence were broken.
 */
final class Walk {
  private final String doc;
  private int at = 0;
  private String sentence = "";
  private int asked = 1;

  Walk(String from, String to) throws IOException {
    String lines = Files.readString(Path.of("../shared/DOC.md"));
    String all = lines.replaceAll("(?m)^```.*$", " ").replaceAll("\\s+", " ").trim();
    int start = all.indexOf(from);
    int end = to.isEmpty() ? all.length() : all.indexOf(to);
    Due.due("the document has " + from + " ahead of " + to, start >= 0 && end > start ? 1 : 0, 1);
    doc = start >= 0 && end > start ? all.substring(start, end) : "";
  }

  /** The next sentence, of which a call tells. */
  void says(String next) {
    noCall(next);
    asked = 0;
  }

  /** The next sentence, of which no call tells. */
  void noCall(String next) {
    Due.due("calls asked for: " + sentence, asked > 0 ? 1 : 0, 1);
    boolean goesOn = doc.startsWith(next, at);
    Due.due("the document goes on with: " + next, goesOn ? 1 : 0, 1);
    at = goesOn ? skipBlanks(at + next.length()) : at;
    sentence = next;
    asked = 1;
  }

  /** A promise's heading and its call. */
  void promise(int number, String name, String call) {
    noCall("## Promise " + number + ": " + name + " `" + call + "`:");
  }

  void is(long got, long want) {
    asked++;
    Due.due(sentence + " (" + asked + ")", got, want);
  }

  void end() {
    noCall("");
    Due.due("the document ends behind: " + doc.substring(0, at), at, doc.length());
  }

  private int skipBlanks(int from) {
    int i = from;
    while (i < doc.length() && doc.charAt(i) == ' ') {
      i++;
    }
    return i;
  }
}
