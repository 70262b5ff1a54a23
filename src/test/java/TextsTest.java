import java.util.ArrayList;
import java.util.List;
import java.util.Random;

/** Drawn texts, most of them a little wrong: the fault, its place and what was read, against the model's. */
public final class TextsTest {
  private static final String[] WORDS = {"slope", "siding", "needs", "fast", "rope", "plain", "men", "water", "runaway", "glass",
      "slips", "always", "clear", "half", "turn", ";", ";", "0", "1", "2", "3", "4", "5", "6", "30", "31", "98", "99", "100",
      "004", "1000", "0001", "A", "!", "ropes", "slop", "\u0000", "\u007f", "\u00ff", "\r"};

  public static void main(String[] args) {
    Random d = new Random(77);
    Checks c = new Checks();
    int[] codes = new int[5];
    for (int i = 0; i < 60000; i++) {
      String text = joined(d, tokens(d));
      SandCars x = new SandCars();
      Model m = new Model();
      for (int[] r : Checks.rows(text)) {
        x.feed(r[0], r[1], r[2], r[3], r[4]);
        m.feed(r[0], r[1], r[2], r[3], r[4]);
      }
      int code = m.mine(text.length());
      codes[code]++;
      c.due("mine of '" + text + "'", x.mine(text.length()), code);
      c.due("fault of '" + text + "'", x.fault(), m.fault());
      for (int k = 0; k < 15; k++) c.due("count(" + k + ") of '" + text + "'", x.count(k), m.count(k));
      for (int k = 0; k < 9 * m.count(2); k++) c.due("rope of '" + text + "'", x.rope(k / 9, k % 9), m.rope(k / 9, k % 9));
    }
    for (int code = 0; code < 5; code++) c.due("texts enough with " + code, codes[code] > 500, true);
    c.end();
  }

  private static List<String> tokens(Random d) {
    List<String> t = new ArrayList<>();
    if (d.nextInt(4) != 0) slope(d, t);
    int lines = d.nextInt(7);
    for (int i = 0; i < lines; i++) {
      int what = d.nextInt(20);
      if (what == 0) slope(d, t);
      else if (what < 5) add(t, d.nextBoolean() ? "needs" : "fast", "" + d.nextInt(101), ";");
      else rope(d, t);
    }
    int wrong = d.nextInt(3);
    for (int i = 0; i < wrong && !t.isEmpty(); i++) {
      int at = d.nextInt(t.size());
      int how = d.nextInt(5);
      if (how == 0) t.remove(at);
      else if (how == 1) t.add(at, WORDS[d.nextInt(WORDS.length)]);
      else if (how == 2) t.add(at, t.get(d.nextInt(t.size())));
      else if (how == 3) t.set(at, WORDS[d.nextInt(WORDS.length)]);
      else t.subList(at, t.size()).clear();
    }
    return t;
  }

  private static void slope(Random d, List<String> t) {
    add(t, "slope", "" + (d.nextInt(9) == 0 ? d.nextInt(25) : 4 + 2 * d.nextInt(9)));
    if (d.nextInt(3) != 0) add(t, "siding", "" + d.nextInt(4));
    t.add(";");
  }

  private static void rope(Random d, List<String> t) {
    add(t, "rope", WORDS[5 + d.nextInt(4)], "" + (1 + d.nextInt(99)), "" + d.nextInt(99), "glass", "" + (1 + d.nextInt(30)));
    if (d.nextBoolean()) add(t, "slips", "" + d.nextInt(4));
    if (d.nextBoolean()) t.add(WORDS[11 + d.nextInt(4)]);
    t.add(";");
  }

  private static void add(List<String> t, String... tokens) { t.addAll(List.of(tokens)); }

  private static String joined(Random d, List<String> tokens) {
    StringBuilder s = new StringBuilder();
    for (String t : tokens) {
      s.append(t);
      int blanks = d.nextInt(12);
      s.append(blanks == 0 ? "" : blanks == 1 ? "\n" : blanks == 2 ? " \n " : " ");
    }
    return s.length() > 400 ? s.substring(0, 400) : s.toString();
  }
}
