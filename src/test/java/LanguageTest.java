import java.nio.charset.StandardCharsets;
import java.nio.file.Files;
import java.nio.file.Path;
import java.util.ArrayList;
import java.util.List;
import java.util.Set;
import java.util.TreeSet;
import java.util.regex.Matcher;
import java.util.regex.Pattern;

/** Those rules of LANGUAGE.md that can be seen in the text of src/main/java/SandCars.java. */
public final class LanguageTest {
  private static final Path SOURCE = Path.of("src/main/java/SandCars.java");
  private static final String[] BARRED = {"\\btry\\b", "\\bcatch\\b", "\\bfinally\\b", "->", "::", "\\bsynchronized\\b",
      "\\bassert\\b", "\\bpackage\\b", "\\bprotected\\b", "\\bvar\\b", "\\byield\\b", "\\bvolatile\\b", "\\bNaN\\b", "Exact\\b",
      "\\bObject\\b", "\\bSystem\\.(?!arraycopy)", "\\bThread\\b", "\\bRandom\\b", "\\.stream", "\\bMap\\b", "\\bSet\\b",
      "\\bhashCode\\b", "\\btoString\\b", "\\bstatic\\s*\\{", "\\bfloat\\b", "\\bdouble\\b"};

  public static void main(String[] args) throws Exception {
    Checks c = new Checks();
    String text = Files.readString(SOURCE, StandardCharsets.UTF_8);
    c.due("signs of 10 and 32 to 126 alone", text.chars().allMatch(s -> s == 10 || s >= 32 && s < 127), true);
    String code = text.replaceAll("(?s)/\\*.*?\\*/", "").replaceAll("//[^\n]*", "").replaceAll("\"[^\"\n]*\"", "\"\"");
    for (String barred : BARRED) {
      Matcher m = Pattern.compile(barred).matcher(code);
      c.due("no " + barred, m.find(), false);
    }
    Set<String> imports = new TreeSet<>();
    Matcher m = Pattern.compile("import ([\\w.]+);").matcher(code);
    while (m.find()) imports.add(m.group(1));
    c.due("imports", imports.equals(Set.of("java.util.Arrays", "java.util.NoSuchElementException")), true);
    Matcher thrown = Pattern.compile("throw new (\\w+)\\(\"\"\\)").matcher(code);
    int good = 0;
    while (thrown.find()) if (Set.of("IllegalArgumentException", "NoSuchElementException").contains(thrown.group(1))) good++;
    c.due("throws of these alone", good, code.split("\\bthrow\\b", -1).length - 1);
    for (String method : longMethods(code)) c.due("a method of over sixty lines: " + method, true, false);
    c.end();
  }

  private static List<String> longMethods(String code) {
    List<String> found = new ArrayList<>();
    String[] lines = code.split("\n");
    String open = null;
    int from = 0;
    for (int i = 0; i < lines.length; i++) {
      String line = lines[i];
      if (open == null && line.matches("( {4}| {8})\\S.*\\) (throws .*)?\\{")) {
        open = line;
        from = i;
      } else if (open != null && line.equals(open.replaceAll("\\S.*", "") + "}")) {
        if (i - from + 1 > 60) found.add(open.trim());
        open = null;
      }
    }
    return found;
  }
}
