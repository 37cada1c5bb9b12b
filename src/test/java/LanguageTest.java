import com.sun.source.tree.ClassTree;
import com.sun.source.tree.CompilationUnitTree;
import com.sun.source.tree.ImportTree;
import com.sun.source.tree.LineMap;
import com.sun.source.tree.LiteralTree;
import com.sun.source.tree.MemberSelectTree;
import com.sun.source.tree.MethodInvocationTree;
import com.sun.source.tree.MethodTree;
import com.sun.source.tree.NewClassTree;
import com.sun.source.tree.Tree;
import com.sun.source.tree.VariableTree;
import com.sun.source.util.JavacTask;
import com.sun.source.util.SourcePositions;
import com.sun.source.util.TreeScanner;
import com.sun.source.util.Trees;
import java.io.IOException;
import java.lang.reflect.Method;
import java.lang.reflect.Modifier;
import java.nio.file.Files;
import java.nio.file.Path;
import java.util.EnumSet;
import java.util.HashMap;
import java.util.HashSet;
import java.util.List;
import java.util.Map;
import java.util.Set;
import java.util.TreeSet;
import java.util.regex.Matcher;
import java.util.regex.Pattern;
import javax.tools.JavaCompiler;
import javax.tools.StandardJavaFileManager;
import javax.tools.ToolProvider;

/** The public face that DOC.md prints, and the rules of LANGUAGE.md that a tree of the source shows. */
public final class LanguageTest {
  private static final Path SOURCE = Path.of("src/main/java/FrostWills.java");
  private static final Set<Tree.Kind> FORBIDDEN = EnumSet.of(
      Tree.Kind.THROW, Tree.Kind.TRY, Tree.Kind.CATCH, Tree.Kind.SYNCHRONIZED, Tree.Kind.ASSERT,
      Tree.Kind.LAMBDA_EXPRESSION, Tree.Kind.MEMBER_REFERENCE, Tree.Kind.ANNOTATION,
      Tree.Kind.STRING_LITERAL, Tree.Kind.FLOAT_LITERAL, Tree.Kind.DOUBLE_LITERAL,
      Tree.Kind.SWITCH_EXPRESSION, Tree.Kind.INSTANCE_OF);
  private static final Set<String> LIBRARY = Set.of(
      "Math.max", "Math.min", "Arrays.fill", "System.arraycopy", "Integer.bitCount");

  private static CompilationUnitTree unit;
  private static SourcePositions places;
  private static final Set<String> FACE = new TreeSet<>();
  private static final Map<String, Set<String>> CALLS = new HashMap<>();

  public static void main(String[] args) throws IOException {
    face();
    sections();
    read();
    rules();
    depth();
    Due.end("LanguageTest");
  }

  private static void holds(String what, boolean good) {
    Due.due(what, good ? 1 : 0, 1);
  }

  private static void face() throws IOException {
    String doc = Files.readString(Path.of("../shared/DOC.md"));
    Matcher m = Pattern.compile("(?m)^    public (int|long) (\\w+)\\((.*)\\);$").matcher(doc);
    Set<String> want = new TreeSet<>();
    while (m.find()) {
      String types = m.group(3).replaceAll(" \\w+(?=,|$)", "").replace(" ", "");
      want.add(m.group(1) + " " + m.group(2) + "(" + types + ")");
      FACE.add(m.group(2));
    }
    Set<String> got = new TreeSet<>();
    for (Method method : FrostWills.class.getDeclaredMethods()) {
      if (!Modifier.isPrivate(method.getModifiers())) {
        StringBuilder types = new StringBuilder();
        for (Class<?> type : method.getParameterTypes()) {
          types.append(types.length() == 0 ? "" : ",").append(type.getName());
        }
        got.add(method.getReturnType() + " " + method.getName() + "(" + types + ")");
        holds("public " + method, Modifier.isPublic(method.getModifiers()));
      }
    }
    holds("the face " + got + " is " + want, got.equals(want) && want.size() == 37);
    holds("public and final", FrostWills.class.getModifiers() == (Modifier.PUBLIC | Modifier.FINAL));
    Due.due("constructors", FrostWills.class.getConstructors().length, 1);
    Due.due("public fields", FrostWills.class.getFields().length, 0);
  }

  /** The lines that stand ahead of calls: behind each one those calls, in their order. */
  private static void sections() throws IOException {
    String doc = Files.readString(Path.of("../shared/DOC.md"));
    Matcher m = Pattern.compile("(?m)^Ahead of the calls (.*) the interface says: (---- .*)\\.$").matcher(doc);
    String[] parts = Files.readString(SOURCE).split("(?m)^  // (?=---- )");
    int part = 0;
    while (m.find()) {
      part++;
      String under = part < parts.length ? parts[part] : "";
      holds("in its place: " + m.group(2), under.startsWith(m.group(2) + "\n"));
      Due.due("behind " + m.group(2) + " stand " + m.group(1), m.group(1).equals(callsOf(under)) ? 1 : 0, 1);
    }
    Due.due("lines ahead of calls", part, 5);
    Due.due("lines ahead of calls in the class", parts.length - 1, 5);
    Due.due("calls ahead of all lines", callsOf(parts[0]).length(), 0);
  }

  private static String callsOf(String source) {
    Matcher m = Pattern.compile("(?m)^  public int (\\w+)\\(").matcher(source);
    StringBuilder calls = new StringBuilder();
    while (m.find()) {
      calls.append(calls.length() == 0 ? "`" : ", `").append(m.group(1)).append('`');
    }
    return calls.toString();
  }

  private static void read() throws IOException {
    JavaCompiler compiler = ToolProvider.getSystemJavaCompiler();
    try (StandardJavaFileManager files = compiler.getStandardFileManager(null, null, null)) {
      JavacTask task = (JavacTask) compiler.getTask(
          null, files, null, null, null, files.getJavaFileObjects(SOURCE));
      unit = task.parse().iterator().next();
      places = Trees.instance(task).getSourcePositions();
    }
    holds("no package", unit.getPackageName() == null);
    for (ImportTree i : unit.getImports()) {
      holds("import " + i, List.of("java.util.Arrays", "java.util.ArrayList", "java.util.List")
          .contains(i.getQualifiedIdentifier().toString()));
    }
  }

  private static long line(long position) {
    LineMap lines = unit.getLineMap();
    return lines.getLineNumber(position);
  }

  private static boolean has(Set<javax.lang.model.element.Modifier> flags, String name) {
    return flags.contains(javax.lang.model.element.Modifier.valueOf(name));
  }

  private static final class Rules extends TreeScanner<Void, String> {
    private int classes = 0;
    private String method = "";

    @Override
    public Void scan(Tree tree, String owner) {
      if (tree != null) {
        holds("line " + line(places.getStartPosition(unit, tree)) + " has a " + tree.getKind(),
            !FORBIDDEN.contains(tree.getKind()));
      }
      return super.scan(tree, owner);
    }

    @Override
    public Void visitClass(ClassTree c, String owner) {
      classes++;
      holds("few classes", classes <= 12);
      Set<javax.lang.model.element.Modifier> flags = c.getModifiers().getFlags();
      if (!owner.isEmpty()) {
        holds("static " + c.getSimpleName(), has(flags, "STATIC"));
        holds("not public " + c.getSimpleName(), !has(flags, "PUBLIC") && !has(flags, "PROTECTED"));
      }
      int fields = 0;
      for (Tree member : c.getMembers()) {
        holds("no initialiser block", member.getKind() != Tree.Kind.BLOCK);
        if (member instanceof VariableTree) {
          Set<javax.lang.model.element.Modifier> of = ((VariableTree) member).getModifiers().getFlags();
          fields += has(of, "STATIC") ? 0 : 1;
          holds("static is final " + member, !has(of, "STATIC") || has(of, "FINAL"));
          holds("private " + member, !owner.isEmpty() || has(of, "PRIVATE"));
        }
      }
      holds("few fields in " + c.getSimpleName(), fields <= 20);
      return super.visitClass(c, c.getSimpleName().toString());
    }

    @Override
    public Void visitMethod(MethodTree m, String owner) {
      String name = m.getName().toString();
      Set<javax.lang.model.element.Modifier> flags = m.getModifiers().getFlags();
      boolean open = has(flags, "PUBLIC");
      holds("public only in the face: " + name, !open || owner.equals("FrostWills"));
      holds("public or private: " + name,
          !owner.equals("FrostWills") || open || has(flags, "PRIVATE"));
      holds("no second " + name, open || !FACE.contains(name));
      holds("few parameters: " + name, m.getParameters().size() <= 7);
      long lines = line(places.getEndPosition(unit, m)) - line(places.getStartPosition(unit, m)) + 1;
      holds("short: " + name, lines <= 60);
      method = name.equals("<init>") ? owner : name;
      CALLS.putIfAbsent(method, new HashSet<>());
      return super.visitMethod(m, owner);
    }

    @Override
    public Void visitMethodInvocation(MethodInvocationTree call, String owner) {
      if (call.getMethodSelect() instanceof MemberSelectTree) {
        MemberSelectTree select = (MemberSelectTree) call.getMethodSelect();
        String whole = select.toString();
        if (Character.isUpperCase(whole.charAt(0))) {
          holds("library: " + whole, LIBRARY.contains(whole));
        } else {
          CALLS.get(method).add(select.getIdentifier().toString());
        }
      } else {
        CALLS.get(method).add(call.getMethodSelect().toString());
      }
      return super.visitMethodInvocation(call, owner);
    }

    @Override
    public Void visitNewClass(NewClassTree made, String owner) {
      holds("no anonymous class", made.getClassBody() == null);
      CALLS.get(method).add(made.getIdentifier().toString());
      return super.visitNewClass(made, owner);
    }

    @Override
    public Void visitLiteral(LiteralTree literal, String owner) {
      if (literal.getKind() == Tree.Kind.CHAR_LITERAL) {
        holds("a sign of 1 to 127", (Character) literal.getValue() < 128);
      }
      return super.visitLiteral(literal, owner);
    }
  }

  private static void rules() {
    new Rules().scan(unit, "");
  }

  private static boolean reaches(String from, String to, Set<String> seen) {
    for (String next : CALLS.getOrDefault(from, Set.of())) {
      if (next.equals(to) || seen.add(next) && reaches(next, to, seen)) {
        return true;
      }
    }
    return false;
  }

  /** How many calls stand open at most, those that call one another counted as one. */
  private static int deepest(String from) {
    int most = 0;
    Set<String> ring = new HashSet<>();
    ring.add(from);
    for (String other : CALLS.keySet()) {
      if (reaches(from, other, new HashSet<>()) && reaches(other, from, new HashSet<>())) {
        ring.add(other);
      }
    }
    for (String member : ring) {
      for (String next : CALLS.getOrDefault(member, Set.of())) {
        most = ring.contains(next) ? most : Math.max(most, deepest(next));
      }
    }
    return most + 1;
  }

  private static void depth() {
    for (String name : FACE) {
      int deep = deepest(name);
      holds(name + " goes " + deep + " deep", deep <= 8);
    }
  }
}
