import java.lang.reflect.Method;
import java.nio.charset.StandardCharsets;
import java.nio.file.Files;
import java.nio.file.Path;
import java.util.regex.Matcher;
import java.util.regex.Pattern;

/** README.md: its example runs and answers what stands behind each call; its table names every call. */
public final class ReadmeTest {
  private static final Pattern CALL = Pattern.compile("(?m)^x\\.(\\w+)\\(([^)]*)\\);\\s*// (.*)$");
  private static final Pattern DUE = Pattern.compile("(?:^|: )(-?\\d+)(?=:|;|$)");

  public static void main(String[] args) throws Exception {
    Checks c = new Checks();
    String text = Files.readString(Path.of("README.md"), StandardCharsets.UTF_8);
    int answers = runExample(c, text);
    c.due("answers that the example tells", answers, 4);
    for (Method m : SandCars.class.getDeclaredMethods()) {
      if (java.lang.reflect.Modifier.isPublic(m.getModifiers()))
        c.due("README.md names " + m.getName(), text.contains("`" + m.getName() + "("), true);
    }
    c.end();
  }

  private static int runExample(Checks c, String text) throws Exception {
    SandCars x = new SandCars();
    int answers = 0;
    Matcher m = CALL.matcher(text);
    while (m.find()) {
      int got = call(x, m.group(1), m.group(2).split(", "));
      Matcher due = DUE.matcher(m.group(3));
      if (due.find()) {
        answers++;
        c.due("README.md's " + m.group(1), got, Integer.parseInt(due.group(1)));
      }
    }
    c.due("the example ends at second", x.count(5), 0);
    return answers;
  }

  private static int call(SandCars x, String name, String[] numbers) throws Exception {
    Class<?>[] types = new Class<?>[numbers.length];
    Object[] values = new Object[numbers.length];
    for (int i = 0; i < numbers.length; i++) {
      types[i] = int.class;
      values[i] = Integer.parseInt(numbers[i]);
    }
    return (Integer) SandCars.class.getMethod(name, types).invoke(x, values);
  }
}
