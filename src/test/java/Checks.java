import java.nio.charset.StandardCharsets;
import java.util.NoSuchElementException;
import java.util.function.IntSupplier;

/** What the tests share: answers that are due, exceptions that are due, and texts put on the tape. */
final class Checks {
  static final int ILLEGAL = -1001;
  static final int NO_SUCH = -1002;
  /** Where look() has fault(). */
  static final int FAULT = 15;
  private int wrong = 0;
  private int made = 0;

  void due(String what, int got, int want) {
    made++;
    if (got != want) {
      wrong++;
      System.out.println(what + " answered " + name(got) + ", due is " + name(want));
    }
  }

  void due(String what, boolean got, boolean want) { due(what, got ? 1 : 0, want ? 1 : 0); }

  /** An answer, or the number that stands for the exception. */
  static int answer(IntSupplier call) {
    try {
      return call.getAsInt();
    } catch (NoSuchElementException e) {
      return NO_SUCH;
    } catch (IllegalArgumentException e) {
      return e.getClass() == IllegalArgumentException.class ? ILLEGAL : -1003;
    }
  }

  void throwsIllegal(String what, IntSupplier call) { due(what, answer(call), ILLEGAL); }

  void throwsNoSuch(String what, IntSupplier call) { due(what, answer(call), NO_SUCH); }

  private static String name(int answer) {
    return answer == ILLEGAL ? "IllegalArgumentException" : answer == NO_SUCH ? "NoSuchElementException" : "" + answer;
  }

  /** Puts a text on the tape, filled up with blanks, and answers the numbers that were fed. */
  static int[][] rows(String text) {
    byte[] bytes = text.getBytes(StandardCharsets.ISO_8859_1);
    int[][] rows = new int[(bytes.length + 19) / 20][5];
    for (int i = 0; i < rows.length * 20; i++) {
      int b = i < bytes.length ? bytes[i] & 255 : 32;
      rows[i / 20][i % 20 / 4] |= b << 24 - 8 * (i % 4);
    }
    return rows;
  }

  static void put(SandCars x, String text) {
    for (int[] r : rows(text)) x.feed(r[0], r[1], r[2], r[3], r[4]);
  }

  /** What mine() answers to a text. */
  static int mine(SandCars x, String text) {
    put(x, text);
    return x.mine(text.length());
  }

  /** All that count(), fault() and rope() tell of an object: count(i) at i. */
  static int[] look(SandCars x) {
    int ropes = x.count(2);
    int[] seen = new int[FAULT + 1 + 9 * ropes];
    for (int i = 0; i < FAULT; i++) seen[i] = x.count(i);
    seen[FAULT] = x.fault();
    for (int i = 0; i < 9 * ropes; i++) seen[FAULT + 1 + i] = x.rope(i / 9, i % 9);
    return seen;
  }

  void same(String what, int[] want, int[] got) {
    due(what + ": how many", got.length, want.length);
    for (int i = 0; i < want.length && i < got.length; i++) {
      int r = i - FAULT - 1;
      due(what + ": " + (r >= 0 ? "rope(" + r / 9 + ", " + r % 9 + ")" : i == FAULT ? "fault" : "count(" + i + ")"), got[i], want[i]);
    }
  }

  /** A new object with a mine. */
  SandCars made(String text) {
    SandCars x = new SandCars();
    due("mine of " + text, mine(x, text), 0);
    return x;
  }

  void end() {
    System.out.println(made + " answers looked at, " + wrong + " not as due");
    if (wrong != 0) System.exit(1);
  }
}
