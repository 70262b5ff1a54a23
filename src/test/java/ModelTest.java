import java.util.Random;

/** Runs of calls that are drawn (from fixed seeds), each answer against the model's. */
public final class ModelTest {
  private static final String[] KINDS = {"plain", "men", "water", "runaway"};
  private static final String[] RULES = {"", "", " always", " clear", " clear", " half", " turn"};
  private static final String[] SCRAPS = {"slope", "slope 8", "siding 1", "needs 2;", "fast 7;", "rope", "glass", "slips",
      "turn", "always", ";", "1234", "0", "007", "99", "X", "\n", "\t", "rope men 5 2 glass 3;", "ropes", "\u00e9", "-", "needs 100;", "fast 0;", "siding 4", "glass 31", "slips 4", "needs 3;", "fast 3;", "slope 4;"};
  private static final int[] EXTREMES = {Integer.MIN_VALUE, Integer.MAX_VALUE, Integer.MIN_VALUE + 1, -1000, 1000, 1 << 30};
  private static int wrong = 0;
  private static int calls = 0;
  /** How often each kind of call had each answer: a look at whether the draws reach what matters. */
  private static final java.util.Map<String, Integer> SEEN = new java.util.TreeMap<>();

  public static void main(String[] args) {
    int runs = args.length > 0 ? Integer.parseInt(args[0]) : 400;
    int from = args.length > 1 ? Integer.parseInt(args[1]) : 0;
    for (int run = from; run < from + runs && wrong < 10; run++) oneRun(run);
    if (args.length > 2) System.out.println(SEEN);
    System.out.println(calls + " calls, " + wrong + " not as the model's");
    if (wrong != 0) System.exit(1);
  }

  static String text(Random d) {
    return d.nextInt(6) == 0 ? calmText(d) : anyText(d);
  }

  /** Ropes that mostly wait for one another, so that much can be come to without harm. */
  private static String calmText(Random d) {
    StringBuilder t = new StringBuilder();
    int length = 4 + 2 * d.nextInt(6);
    t.append("slope ").append(length).append(" siding ").append(Math.min(3, length / 2 - 1)).append(';');
    for (int r = 0; r < 3; r++) {
      t.append("rope ").append(KINDS[d.nextInt(4)]).append(" 9 ").append(d.nextInt(9)).append(" glass ").append(1 + d.nextInt(30));
      t.append(" slips ").append(d.nextInt(4)).append(d.nextInt(20) == 0 ? " turn;" : " clear;");
    }
    return t.toString();
  }

  private static String anyText(Random d) {
    StringBuilder t = new StringBuilder();
    int length = 4 + 2 * d.nextInt(d.nextInt(3) == 0 ? 9 : 5);
    int siding = d.nextInt(5) == 0 ? d.nextInt(Math.min(4, length / 2)) : Math.min(3, length / 2 - 1);
    if (d.nextInt(15) != 0) {
      t.append("slope ").append(length);
      if (d.nextInt(12) != 0) t.append(" siding ").append(siding);
      t.append(";");
    }
    if (d.nextInt(3) == 0) t.append("needs ").append(1 + d.nextInt(9)).append(";");
    if (d.nextInt(2) == 0) t.append("fast ").append(1 + d.nextInt(20)).append(" ;");
    int ropes = d.nextInt(8) == 0 ? d.nextInt(2) : 1 + d.nextInt(3);
    for (int r = 0; r < ropes; r++) {
      int load = 1 + d.nextInt(30);
      t.append("rope ").append(KINDS[d.nextInt(4)]).append(' ').append(load).append(' ');
      t.append(d.nextInt(6) == 0 ? d.nextInt(99) : d.nextInt(load)).append(" glass ");
      t.append(1 + d.nextInt(d.nextInt(2) == 0 ? 30 : 8));
      if (d.nextInt(2) == 0) t.append(" slips ").append(d.nextInt(4));
      t.append(RULES[d.nextInt(RULES.length)]).append(d.nextInt(5) == 0 ? " ;\n" : ";");
    }
    return t.toString();
  }

  private static String spoilt(Random d, String text) {
    String scrap = d.nextInt(3) == 0 ? text(d) : SCRAPS[d.nextInt(SCRAPS.length)];
    int at = d.nextInt(text.length() + 1);
    int cut = d.nextInt(3) == 0 ? 0 : d.nextInt(Math.min(9, text.length() - at + 1));
    if (d.nextInt(4) == 0) return text.substring(0, at);
    String out = text.substring(0, at) + (d.nextBoolean() ? " " : "") + scrap + (d.nextBoolean() ? " " : "") + text.substring(at + cut);
    return out.length() > 400 ? out.substring(0, 400) : out;
  }

  private static void oneRun(int run) {
    Random d = new Random(run * 7919L + 17);
    SandCars x = new SandCars();
    Model m = new Model();
    StringBuilder log = new StringBuilder();
    for (int i = 0; i < 500 && wrong < 10; ) {
      if (i == 0 || d.nextInt(25) == 0) {
        String t = text(d);
        if (d.nextInt(5) == 0) t = spoilt(d, t);
        log.append("text ").append(t).append('\n');
        for (int[] r : Checks.rows(t)) compare(run, log, x, m, 0, r);
        i += Checks.rows(t).length;
        compare(run, log, x, m, 1, new int[] {d.nextInt(20) == 0 ? d.nextInt(420) - 5 : t.length()});
        compare(run, log, x, m, 2, new int[0]);
        i += 2;
        if (d.nextInt(3) == 0) i += tellTimes(run, log, x, m, d);
        if (d.nextInt(4) == 0) i += walk(run, log, x, m);
        continue;
      }
      int what = 3 + d.nextInt(15);
      if (what == 5 && d.nextBoolean()) what = 6;
      int[] with = drawn(d, what);
      if (with.length > 0 && d.nextInt(40) == 0) with[d.nextInt(with.length)] = EXTREMES[d.nextInt(EXTREMES.length)];
      compare(run, log, x, m, what, with);
      i++;
      if (d.nextInt(3) == 0) {
        for (int k = 0; k < 15; k++) compare(run, log, x, m, 3, new int[] {k});
        for (int k = 0; k < 27; k++) compare(run, log, x, m, 4, new int[] {k / 9, k % 9});
        i += 42;
      }
    }
  }

  private static int tellTimes(int run, StringBuilder log, SandCars x, Model m, Random d) {
    int told = 0;
    for (int[] t : m.drawnTimes(d, 1 + d.nextInt(8))) {
      compare(run, log, x, m, 11, t);
      compare(run, log, x, m, 12, new int[0]);
      told++;
    }
    return 2 * told;
  }

  /** Second by second, as ropes that move together soon come to harm. */
  private static int walk(int run, StringBuilder log, SandCars x, Model m) {
    int steps = 0;
    for (; steps < 25 && m.count(7) == 0; steps++) {
      compare(run, log, x, m, 6, new int[] {1});
      for (int r = 0; r < m.count(2); r++) compare(run, log, x, m, 13, new int[] {r});
    }
    return 4 * steps;
  }

  private static int[] drawn(Random d, int what) {
    int rope = d.nextInt(15) == 0 ? d.nextInt(6) - 2 : d.nextInt(3);
    switch (what) {
      case 3: return new int[] {d.nextInt(18) - 1};
      case 4: return new int[] {rope, d.nextInt(12) - 1};
      case 5: return new int[] {rope, d.nextInt(6) - 1};
      case 6: return new int[] {d.nextInt(30) == 0 ? 195 + d.nextInt(9) : d.nextInt(d.nextInt(3) == 0 ? 40 : 6) - (d.nextInt(20) == 0 ? 3 : 0)};
      case 7: return new int[] {d.nextInt(15) == 0 ? 1000 : d.nextInt(12) - 1};
      case 8: return new int[] {d.nextInt(12) == 0 ? d.nextInt(6) - 2 : d.nextInt(3)};
      case 9: return new int[] {d.nextInt(63) - 1};
      case 10: return new int[] {d.nextInt(40) - 1};
      case 11: return new int[] {rope, d.nextInt(20) == 0 ? 198 + d.nextInt(5) : d.nextInt(60)};
      case 13: return new int[] {rope};
      case 14: return new int[] {rope, d.nextInt(33) - 1, d.nextInt(10) == 0 ? 198 + d.nextInt(5) : d.nextInt(80) - 1};
      default: return new int[0];
    }
  }

  private static void compare(int run, StringBuilder log, SandCars x, Model m, int what, int[] a) {
    calls++;
    int got = Checks.answer(() -> ofProgram(x, what, a));
    int want = Checks.answer(() -> ofModel(m, what, a));
    String call = "call " + what + java.util.Arrays.toString(a);
    SEEN.merge(what + (what == 8 ? "/" + a[0] : "") + " " + Math.max(-3, Math.min(want, 3)), 1, Integer::sum);
    log.append(call).append(" = ").append(want).append('\n');
    if (got != want) {
      wrong++;
      System.out.println("run " + run + ": " + call + " answered " + got + ", the model " + want);
      if (wrong == 1) System.out.println(log);
    }
  }

  private static int ofProgram(SandCars x, int what, int[] a) {
    switch (what) {
      case 0: return x.feed(a[0], a[1], a[2], a[3], a[4]);
      case 1: return x.mine(a[0]);
      case 2: return x.fault();
      case 3: return x.count(a[0]);
      case 4: return x.rope(a[0], a[1]);
      case 5: return x.slip(a[0], a[1]) ? 1 : 0;
      case 6: return x.on(a[0]);
      case 7: return x.undo(a[0]);
      case 8: return x.safe(a[0]);
      case 9: return x.most(a[0]);
      case 10: return x.plan(a[0]);
      case 11: return x.time(a[0], a[1]);
      case 12: return x.fitting();
      case 13: return x.breaks(a[0]);
      case 14: return x.worth(a[0], a[1], a[2]);
      case 15: x.image(); return 0;
      case 16: return x.restore() ? 1 : 0;
      default: return 0;
    }
  }

  private static int ofModel(Model m, int what, int[] a) {
    switch (what) {
      case 0: return m.feed(a[0], a[1], a[2], a[3], a[4]);
      case 1: return m.mine(a[0]);
      case 2: return m.fault();
      case 3: return m.count(a[0]);
      case 4: return m.rope(a[0], a[1]);
      case 5: return m.slip(a[0], a[1]) ? 1 : 0;
      case 6: return m.on(a[0]);
      case 7: return m.undo(a[0]);
      case 8: return m.safe(a[0]);
      case 9: return m.most(a[0]);
      case 10: return m.plan(a[0]);
      case 11: return m.time(a[0], a[1]);
      case 12: return m.fitting();
      case 13: return m.breaks(a[0]);
      case 14: return m.worth(a[0], a[1], a[2]);
      case 15: m.image(); return 0;
      case 16: return m.restore() ? 1 : 0;
      default: return 0;
    }
  }
}
