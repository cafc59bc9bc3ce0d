import java.io.IOException;
import java.nio.charset.StandardCharsets;
import java.nio.file.Files;
import java.nio.file.Paths;
import java.util.Set;
import java.util.TreeSet;
import java.util.regex.Matcher;
import java.util.regex.Pattern;

/** What of ../shared/LANGUAGE.md can be seen from the text of the class alone. */
public final class Rules {
  private static int wrong;

  public static void main(String[] args) throws IOException {
    String source = Files.readString(Paths.get("src/main/java/SidingLoops.java"), StandardCharsets.ISO_8859_1);
    String code = source.replaceAll("(?s)/\\*.*?\\*/", "").replaceAll("//[^\n]*", "").replaceAll("\"[^\"\n]*\"", "\"\"");
    none(source, "[^\\x0a\\x20-\\x7e]", "a sign that is no ASCII");
    none(code, "->", "a lambda");
    none(code, "::", "a method reference");
    none(code, "\\b(finally|synchronized|assert|package|instanceof|Object|equals|hashCode|toString|System\\.out|Random|Thread|Exact)\\b", "a word that is not for us");
    none(code, "\\bcatch\\b", "a catch");
    none(code, "while \\(true\\)|for \\(;;\\)", "a loop without an end");
    none(code, "\\bnew \\w+(\\[[^\\]]*\\])?\\s*\\{", "an anonymous class or written-out array");
    only(code, "import ([\\w.]+);", Set.of("java.util.Arrays", "java.util.NoSuchElementException"));
    only(code, "\\b(?:Math|Integer|Long|Arrays|System)\\.(\\w+)", Set.of("min", "max", "bitCount", "fill", "arraycopy"));
    only(code, "throw new (\\w+)", Set.of("NoSuchElementException"));
    none(code, "static (?!final|int |boolean |long )\\w+ \\w+( =|;)", "a static field that may change");
    faceOnly(code);
    shortMethods(code);
    noMakingInCalls(code);
    System.out.println(wrong == 0 ? "the rules are kept" : wrong + " breaches");
    if (wrong != 0) System.exit(1);
  }

  private static void tell(String what) { wrong++; System.out.println(what); }

  private static void none(String text, String pattern, String what) {
    Matcher m = Pattern.compile(pattern).matcher(text);
    while (m.find()) tell(what + ": " + m.group());
  }

  private static void only(String text, String pattern, Set<String> allowed) {
    Matcher m = Pattern.compile(pattern).matcher(text);
    while (m.find()) if (!allowed.contains(m.group(1))) tell("not on the list: " + m.group());
  }

  /** No other method bears the name of one of the face, and the face's class has no other open member. */
  private static void faceOnly(String code) {
    Set<String> face = new TreeSet<>();
    Matcher open = Pattern.compile("\n    public (?:int|boolean) (\\w+)\\(").matcher(code);
    while (open.find()) face.add(open.group(1));
    if (face.size() != 49 - 1) tell("the face has " + face.size() + " methods besides the constructor");
    Matcher m = Pattern.compile("\n {8}(?:private )?(?:static )?[\\w\\[\\]]+ (\\w+)\\([^;]*?\\{").matcher(code);
    while (m.find()) if (face.contains(m.group(1))) tell("bears a name of the face: " + m.group(1));
    none(code, "\n    (?!public |private |\\}|@)\\S[^\n]*", "an open member of the face's class");
    none(code, "\n    private (?!static final class)[^\n]*\\b(?:" + String.join("|", face) + ")\\(", "a private method with a name of the face");
  }

  private static void shortMethods(String code) {
    Matcher m = Pattern.compile("\n( {4}| {8})(?! )[^\n;=]*\\)(?: throws \\w+)? \\{\n(.*?)\n\\1\\}", Pattern.DOTALL).matcher(code);
    int seen = 0;
    while (m.find()) {
      seen++;
      if (m.group(2).split("\n").length > 60) tell("a long method: " + m.group().trim().split("\n")[0]);
    }
    if (seen < 100) tell("only " + seen + " methods seen");
    Matcher c = Pattern.compile("\\bclass \\w+ ").matcher(code);
    int classes = 0;
    while (c.find()) classes++;
    if (classes > 12) tell(classes + " classes");
  }

  /** Objects are made by fields and constructors alone, but for the exception. */
  private static void noMakingInCalls(String code) {
    for (String line : code.split("\n")) {
      boolean field = line.matches(" {4,8}(private )?(static )?(final )?[\\w\\[\\]]+ \\w+ = new .*;");
      boolean constructors = line.contains("before[i] = new State(true)") || line.contains("past = new Past(keepsPast)");
      if (line.contains("new ") && !field && !constructors && !line.contains("throw new")) tell("made in a call: " + line.trim());
    }
  }
}
