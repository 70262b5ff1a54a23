import java.util.ArrayDeque;
import java.util.ArrayList;
import java.util.Arrays;
import java.util.Deque;
import java.util.HashMap;
import java.util.LinkedHashMap;
import java.util.List;
import java.util.Map;
import java.util.NoSuchElementException;
import java.util.TreeMap;
import java.util.regex.Matcher;
import java.util.regex.Pattern;

/** The document a second time, in another way than SandCars: with the library, and without thrift. */
final class Model {
  private static final List<String> KINDS = List.of("plain", "men", "water", "runaway");
  private static final List<String> RULES = List.of("always", "clear", "half", "turn");
  private static final Pattern TOKEN = Pattern.compile("[a-z]+|[0-9]+|;|[^ \n]", Pattern.DOTALL);

  static final class Rope {
    String kind, rule = "always";
    int load, empty, glass, slips;
    int pull() { return load - empty; }
  }

  static final class Facts {
    int length = 4, siding = 0, needs = 1, fast = 99;
    final List<Rope> ropes = new ArrayList<>();
  }

  static final class State {
    final Map<Integer, Integer> at = new TreeMap<>();
    final int[] left;
    int last = -1, ore = 0, second = 0, harm = 0;
    State(int ropes) { left = new int[ropes]; }
    State(State o) { this(o.left.length); set(o); }
    void set(State o) {
      at.clear(); at.putAll(o.at);
      System.arraycopy(o.left, 0, left, 0, left.length);
      last = o.last; ore = o.ore; second = o.second; harm = o.harm;
    }
    String text() { return at + "|" + Arrays.toString(left) + "|" + last; }
  }

  static final class Fault extends Exception {
    private static final long serialVersionUID = 1;
    final int code, place;
    Fault(int code, int place) { this.code = code; this.place = place; }
  }

  private final StringBuilder tape = new StringBuilder();
  private Facts facts = new Facts();
  private int faultPlace = -1;
  private State state = new State(0);
  private int[] slips = new int[0];
  private Deque<State> past = new ArrayDeque<>();
  private List<int[]> times = new ArrayList<>();
  private int[] status = new int[3];
  private int[] plan = null;
  private Object[] image = null;

  // ---- the text

  private static final class Parser {
    final List<String> tokens = new ArrayList<>();
    final List<Integer> places = new ArrayList<>();
    int i = 0;
    Parser(String text) {
      Matcher m = TOKEN.matcher(text);
      while (m.find()) { tokens.add(m.group()); places.add(m.start()); }
      tokens.add(""); places.add(text.length());
    }
    String peek() { return tokens.get(i); }
    Fault bad(int code) { return new Fault(code, places.get(i)); }
    boolean accept(String word) { if (peek().equals(word)) { i++; return true; } return false; }
    void expect(String word) throws Fault { if (!accept(word)) throw bad(1); }
    int number(int low, int high, int step) throws Fault {
      String t = peek();
      if (!t.matches("[0-9]+")) throw bad(1);
      if (t.length() > 3) throw bad(2);
      int v = Integer.parseInt(t);
      if (v < low || v > high || (v - low) % step != 0) throw bad(2);
      i++;
      return v;
    }
  }

  private static Facts parse(String text) throws Fault {
    Parser p = new Parser(text);
    Facts f = new Facts();
    boolean first = true, needs = false, fast = false;
    while (!p.peek().isEmpty()) {
      String t = p.peek();
      if (t.equals("slope")) {
        if (!first) throw p.bad(3);
        p.i++;
        f.length = p.number(4, 20, 2);
        if (p.accept("siding")) f.siding = p.number(0, f.length == 4 ? 1 : f.length == 6 ? 2 : 3, 1);
      } else if (t.equals("needs")) {
        if (needs) throw p.bad(4);
        needs = true;
        p.i++;
        f.needs = p.number(1, 99, 1);
      } else if (t.equals("fast")) {
        if (fast) throw p.bad(4);
        fast = true;
        p.i++;
        f.fast = p.number(1, 99, 1);
      } else if (t.equals("rope")) {
        if (f.ropes.size() == 3) throw p.bad(2);
        p.i++;
        Rope r = new Rope();
        r.kind = p.peek();
        if (!KINDS.contains(r.kind)) throw p.bad(1);
        p.i++;
        r.load = p.number(1, 99, 1);
        r.empty = p.number(0, 98, 1);
        p.expect("glass");
        r.glass = p.number(1, 30, 1);
        if (p.accept("slips")) r.slips = p.number(0, 3, 1);
        if (RULES.contains(p.peek())) { r.rule = p.peek(); p.i++; }
        f.ropes.add(r);
      } else {
        throw p.bad(1);
      }
      p.expect(";");
      first = false;
    }
    return f;
  }

  // ---- a second

  private static State firstState(Facts f) {
    State s = new State(f.ropes.size());
    for (int r = 0; r < f.ropes.size(); r++) s.left[r] = f.ropes.get(r).glass;
    return s;
  }

  private static int pace(Facts f, int rope, int at) {
    Rope r = f.ropes.get(rope);
    boolean early = 2 * at < f.length;
    switch (r.kind) {
      case "plain": return r.pull() >= f.fast ? 2 : 1;
      case "men": return 1;
      case "water": return early ? 2 : 1;
      default: return early ? 1 : 3;
    }
  }

  private static boolean inSiding(Facts f, int place) { return Math.abs(2 * place - f.length) <= 2 * f.siding; }

  /** A car is {where it was, where it is}. */
  private static boolean meets(Facts f, int[] a, int[] b) {
    int was = Integer.signum(a[0] - b[0]), is = Integer.signum(a[1] - b[1]);
    boolean meets = is == 0 ? a[1] != 0 && a[1] != f.length : was * is < 0;
    boolean all = inSiding(f, a[0]) && inSiding(f, a[1]) && inSiding(f, b[0]) && inSiding(f, b[1]);
    return meets && !all;
  }

  private static List<int[]> goOn(Facts f, Map<Integer, Integer> at) {
    List<int[]> cars = new ArrayList<>();
    for (Map.Entry<Integer, Integer> e : at.entrySet()) {
      int was = e.getValue(), is = Math.min(f.length, was + pace(f, e.getKey(), was));
      cars.add(new int[] {was, is});
      cars.add(new int[] {f.length - was, f.length - is});
      e.setValue(is);
    }
    return cars;
  }

  private static int harmOf(Facts f, List<int[]> cars) {
    for (int i = 0; i < cars.size(); i++)
      for (int j = i + 1; j < cars.size(); j++)
        if (meets(f, cars.get(i), cars.get(j))) return 1;
    return cars.stream().filter(c -> inSiding(f, c[1])).count() > 2 ? 2 : 0;
  }

  private static List<Integer> arrive(Facts f, Map<Integer, Integer> at) {
    List<Integer> arrived = new ArrayList<>();
    for (int r = 0; r < f.ropes.size(); r++)
      if (at.containsKey(r) && at.get(r) == f.length) { at.remove(r); arrived.add(r); }
    return arrived;
  }

  private static boolean allows(Facts f, State s, int rope) {
    switch (f.ropes.get(rope).rule) {
      case "always": return true;
      case "clear": return s.at.isEmpty();
      case "half": return s.at.values().stream().allMatch(a -> 2 * a >= f.length);
      default: return s.last != rope;
    }
  }

  /** What a second did: who arrived and who started, the latter by slips of 0. */
  private static final class Gone {
    List<Integer> arrived = new ArrayList<>(), started = new ArrayList<>();
  }

  private static Gone second(Facts f, State s) {
    Gone g = new Gone();
    s.second++;
    s.harm = harmOf(f, goOn(f, s.at));
    if (s.harm != 0) return g;
    g.arrived = arrive(f, s.at);
    for (int r : g.arrived) s.ore += f.ropes.get(r).load;
    for (int r = 0; r < s.left.length; r++) s.left[r] = Math.max(0, s.left[r] - 1);
    for (int r = 0; r < s.left.length; r++) {
      Rope rope = f.ropes.get(r);
      if (s.left[r] > 0 || s.at.containsKey(r) || rope.pull() < f.needs || !allows(f, s, r)) continue;
      s.at.put(r, 0);
      s.left[r] = rope.glass;
      s.last = r;
      g.started.add(r);
    }
    return g;
  }

  // ---- the face

  int feed(int a, int b, int c, int d, int e) {
    if (tape.length() + 20 > 400) return -1;
    for (int n : new int[] {a, b, c, d, e})
      for (int k = 3; k >= 0; k--) tape.append((char) (n >> 8 * k & 255));
    return tape.length();
  }

  int mine(int n) {
    if (n < 0 || n > tape.length()) throw new IllegalArgumentException();
    String text = tape.substring(0, n);
    tape.setLength(0);
    try {
      facts = parse(text);
    } catch (Fault f) {
      faultPlace = f.place;
      status[0]++;
      return f.code;
    }
    faultPlace = -1;
    state = firstState(facts);
    slips = new int[facts.ropes.size()];
    past = new ArrayDeque<>();
    times = new ArrayList<>();
    plan = null;
    image = null;
    return 0;
  }

  int fault() { return faultPlace; }

  int count(int what) {
    int[] all = {facts.length, facts.siding, facts.ropes.size(), facts.needs, facts.fast, state.second, state.ore,
        state.harm, state.last, past.size(), times.size(), tape.length(), status[0], status[1], status[2]};
    if (what < 0 || what >= all.length) throw new NoSuchElementException();
    return all[what];
  }

  private Rope ropeOf(int rope) {
    if (rope < 0 || rope >= facts.ropes.size()) throw new NoSuchElementException();
    return facts.ropes.get(rope);
  }

  int rope(int rope, int what) {
    Rope r = ropeOf(rope);
    Integer at = state.at.get(rope);
    int[] all = {KINDS.indexOf(r.kind), r.pull(), r.glass, r.slips, RULES.indexOf(r.rule), at == null ? -1 : at,
        state.left[rope], slips[rope], at == null ? 0 : pace(facts, rope, at)};
    if (what < 0 || what >= all.length) throw new NoSuchElementException();
    return all[what];
  }

  boolean slip(int rope, int slip) {
    if (slip < 0 | slip > ropeOf(rope).slips) return false;
    slips[rope] = slip;
    return true;
  }

  int on(int seconds) {
    if (seconds < 0 || seconds > 200) throw new IllegalArgumentException();
    if (state.harm != 0) { if (seconds > 0) status[1]++; return 0; }
    for (int k = 1; k <= seconds; k++) {
      past.addLast(new State(state));
      if (past.size() > 300) past.removeFirst();
      Gone g = second(facts, state);
      for (int r : g.started) state.left[r] += slips[r];
      if (state.harm != 0) return k;
    }
    return seconds;
  }

  int undo(int seconds) {
    if (seconds < 0) throw new IllegalArgumentException();
    int k = 0;
    for (; k < seconds && !past.isEmpty(); k++) state.set(past.removeLast());
    return k;
  }

  /** All states behind one, by all slips of those that started. */
  private List<State> bySlips(State s, List<Integer> started) {
    List<State> all = new ArrayList<>(List.of(s));
    for (int r : started) {
      List<State> more = new ArrayList<>();
      for (State x : all)
        for (int k = 0; k <= facts.ropes.get(r).slips; k++) {
          State y = new State(x);
          y.left[r] += k;
          more.add(y);
        }
      all = more;
    }
    return all;
  }

  int safe(int what) {
    if (what < 0 || what > 2) throw new NoSuchElementException();
    Map<String, State> seen = new LinkedHashMap<>();
    List<State> layer = new ArrayList<>(List.of(firstState(facts)));
    seen.put(layer.get(0).text(), layer.get(0));
    int soonest = -1;
    for (int second = 1; !layer.isEmpty(); second++) {
      List<State> next = new ArrayList<>();
      for (State s : layer) {
        State t = new State(s);
        Gone g = second(facts, t);
        if (t.harm != 0) { if (soonest < 0) soonest = second; continue; }
        for (State u : bySlips(t, g.started)) if (seen.putIfAbsent(u.text(), u) == null) next.add(u);
      }
      if (seen.size() > 4000) return -2;
      layer = next;
    }
    return what == 0 ? (soonest < 0 ? 1 : 0) : what == 1 ? soonest : seen.size();
  }

  /** A way to somewhere: the ore and the starts so far. */
  private record Way(Map<Integer, Integer> at, int ore, int[] starts) {
    boolean better(Way o) {
      return o == null || ore > o.ore || ore == o.ore && Arrays.compare(starts, o.starts) < 0;
    }
  }

  private void addStarts(Map<Map<Integer, Integer>, Way> layer, Way way) {
    for (int bits = 0; bits < 8; bits++) {
      Map<Integer, Integer> at = new TreeMap<>(way.at);
      boolean can = true;
      for (int r = 0; r < 3; r++) {
        if ((bits & 1 << r) == 0) continue;
        can &= r < facts.ropes.size() && !at.containsKey(r) && facts.ropes.get(r).pull() >= facts.needs;
        at.put(r, 0);
      }
      if (!can) continue;
      int[] starts = Arrays.copyOf(way.starts, way.starts.length + 1);
      starts[way.starts.length] = bits;
      Way w = new Way(at, way.ore, starts);
      if (w.better(layer.get(at))) layer.put(at, w);
    }
  }

  int most(int n) {
    if (n < 0 || n > 60) throw new IllegalArgumentException();
    Map<Map<Integer, Integer>, Way> layer = new HashMap<>();
    addStarts(layer, new Way(new TreeMap<>(), 0, new int[0]));
    int couples = layer.size();
    for (int s = 1; s <= n; s++) {
      Map<Map<Integer, Integer>, Way> next = new HashMap<>();
      for (Way w : layer.values()) {
        Map<Integer, Integer> at = new TreeMap<>(w.at);
        if (harmOf(facts, goOn(facts, at)) != 0) continue;
        int ore = w.ore;
        for (int r : arrive(facts, at)) ore += facts.ropes.get(r).load;
        addStarts(next, new Way(at, ore, w.starts));
      }
      layer = next;
      couples += layer.size();
      if (couples > 4000) return -2;
    }
    Way best = null;
    for (Way w : layer.values()) if (w.better(best)) best = w;
    plan = best.starts;
    return best.ore;
  }

  int plan(int second) {
    if (plan == null || second < 0 || second >= plan.length) throw new NoSuchElementException();
    return plan[second];
  }

  int time(int rope, int second) {
    ropeOf(rope);
    int[] last = times.isEmpty() ? new int[] {-1, 0} : times.get(times.size() - 1);
    boolean ordered = second * 10L + rope > last[1] * 10L + last[0];
    if (times.size() == 8 || second < 1 || second > 200 || !ordered) { status[2]++; return -1; }
    times.add(new int[] {rope, second});
    return times.size();
  }

  /** Times that some drawn slips bring, so that rows are found that fit. */
  List<int[]> drawnTimes(java.util.Random d, int many) {
    List<int[]> drawn = new ArrayList<>();
    State s = firstState(facts);
    while (s.second < 200 && s.harm == 0 && drawn.size() < many) {
      Gone g = second(facts, s);
      for (int r : g.started) s.left[r] += d.nextInt(facts.ropes.get(r).slips + 1);
      if (drawn.size() + g.arrived.size() > many) break;
      for (int r : g.arrived) drawn.add(new int[] {r, s.second});
    }
    return drawn;
  }

  int fitting() {
    Map<String, State> layer = new LinkedHashMap<>();
    Map<String, Long> ways = new HashMap<>();
    State start = firstState(facts);
    layer.put(start.text(), start);
    ways.put(start.text(), 1L);
    long turns = 0;
    int end = times.isEmpty() ? 0 : times.get(times.size() - 1)[1];
    for (int s = 1; s <= end; s++) {
      List<Integer> told = new ArrayList<>();
      for (int[] t : times) if (t[1] == s) told.add(t[0]);
      Map<String, State> next = new LinkedHashMap<>();
      Map<String, Long> nextWays = new HashMap<>();
      for (State x : layer.values()) {
        long w = ways.get(x.text()), row = w;
        State y = new State(x);
        Gone g = second(facts, y);
        if (y.harm != 0 || !g.arrived.equals(told)) continue;
        for (int r : g.started) {
          row *= facts.ropes.get(r).slips + 1;
          turns += row;
        }
        for (State z : bySlips(y, g.started)) {
          next.putIfAbsent(z.text(), z);
          nextWays.merge(z.text(), w, Long::sum);
        }
      }
      if (turns > 20000) return -2;
      layer = next;
      ways = nextWays;
    }
    return (int) ways.values().stream().mapToLong(w -> w).sum();
  }

  int breaks(int rope) {
    ropeOf(rope);
    if (state.harm != 0 || !state.at.containsKey(rope)) return -1;
    Map<Integer, Integer> others = new TreeMap<>(state.at);
    int at = others.remove(rope);
    List<Integer> loose = new ArrayList<>(List.of(at, facts.length - at));
    for (int s = 1; s < 100; s++) {
      List<int[]> cars = goOn(facts, others);
      List<Integer> still = new ArrayList<>();
      for (int place : loose) {
        int now = Math.min(facts.length, place + 3);
        for (int[] car : cars) if (meets(facts, new int[] {place, now}, car)) return s;
        if (now < facts.length) still.add(now);
      }
      loose = still;
      arrive(facts, others);
    }
    return -1;
  }

  int worth(int rope, int glass, int n) {
    Rope r = ropeOf(rope);
    if (glass < 1 || glass > 30 || n < 0 || n > 200) throw new IllegalArgumentException();
    int before = oreIn(n), old = r.glass;
    r.glass = glass;
    int after = oreIn(n);
    r.glass = old;
    return after - before;
  }

  private int oreIn(int n) {
    State s = firstState(facts);
    for (int k = 0; k < n && s.harm == 0; k++) second(facts, s);
    return s.ore;
  }

  void image() {
    Deque<State> copies = new ArrayDeque<>();
    for (State s : past) copies.add(new State(s));
    image = new Object[] {new State(state), slips.clone(), copies, new ArrayList<>(times), status.clone()};
  }

  @SuppressWarnings("unchecked")
  boolean restore() {
    if (image == null) return false;
    Object[] kept = image;
    state = (State) kept[0];
    slips = (int[]) kept[1];
    past = (Deque<State>) kept[2];
    times = (List<int[]>) kept[3];
    status = (int[]) kept[4];
    image();
    return true;
  }
}
