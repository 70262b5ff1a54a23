/** The document's edges of STATUS, image() and restore(), and that a call that is refused changes nothing else. */
public final class KeptEdgesTest {
  private static final Checks C = new Checks();
  private static final String ROPES = "slope 4 siding 1;rope men 9 4 glass 3 slips 2 clear;rope men 7 2 glass 5 slips 1 clear;";
  private static final String CRASH = "slope 4;rope men 9 4 glass 2;";
  private static final int FOUR_BLANKS = 0x20202020;

  public static void main(String[] args) {
    statusOfTexts();
    statusOfSeconds();
    statusOfTimes();
    noStatusElse();
    refusedCallsChangeNothing();
    noImage();
    imageInPlaceOfAnother();
    restoredAgainAndAgain();
    imageKeepsStateAndOre();
    imageKeepsSlips();
    imageKeepsWhatCanBeUndone();
    imageKeepsAFullRing();
    imageKeepsTimes();
    imageKeepsStatus();
    imageWithHarm();
    imageKeepsNoMore();
    imageIsGoneWithAnotherMine();
    C.end();
  }

  private static void status(String when, SandCars x, int texts, int seconds, int times) {
    C.due(when + ": STATUS 0", x.count(12), texts);
    C.due(when + ": STATUS 1", x.count(13), seconds);
    C.due(when + ": STATUS 2", x.count(14), times);
  }

  // 0 TEXTS with a FAULT.
  private static void statusOfTexts() {
    SandCars x = new SandCars();
    status("at first", x, 0, 0, 0);
    for (int i = 1; i <= 20; i++) {
      Checks.mine(x, "x");
      status("texts", x, i, 0, 0);
    }
    Checks.mine(x, ROPES);
    status("it stays with a mine", x, 20, 0, 0);
    C.throwsIllegal("mine(1)", () -> x.mine(1));
    status("no text at all", x, 20, 0, 0);
  }

  // 1 seconds that can't be: a call, however many seconds it asks for.
  private static void statusOfSeconds() {
    SandCars x = C.made(CRASH);
    C.due("till HARM", x.on(200), 4);
    status("some went by", x, 0, 0, 0);
    for (int i = 1; i <= 20; i++) {
      C.due("on", x.on(i * 10), 0);
      status("a call", x, 0, i, 0);
    }
    C.due("none asked", x.on(0), 0);
    status("none asked", x, 0, 20, 0);
    x.undo(1);
    C.due("again", x.on(2), 1);
    status("seconds that can be", x, 0, 20, 0);
  }

  private static void statusOfTimes() {
    SandCars x = C.made(ROPES);
    x.time(0, 0);
    status("no such second", x, 0, 0, 1);
    x.time(1, 9);
    x.time(0, 9);
    status("not in order", x, 0, 0, 2);
    for (int i = 0; i < 7; i++) x.time(0, 10 + i);
    status("told", x, 0, 0, 2);
    x.time(0, 99);
    status("there are 8", x, 0, 0, 3);
  }

  private static void noStatusElse() {
    SandCars x = C.made(ROPES);
    for (int i = 0; i < 21; i++) x.feed(FOUR_BLANKS, FOUR_BLANKS, FOUR_BLANKS, FOUR_BLANKS, FOUR_BLANKS);
    x.slip(0, 3);
    x.undo(9);
    x.restore();
    x.breaks(0);
    Checks.answer(() -> x.plan(0));
    Checks.answer(() -> x.mine(401));
    Checks.answer(() -> x.on(201));
    Checks.answer(() -> x.undo(-1));
    Checks.answer(() -> x.safe(3));
    Checks.answer(() -> x.most(61));
    Checks.answer(() -> x.time(2, 0));
    Checks.answer(() -> x.worth(0, 0, 0));
    status("none of these", x, 0, 0, 0);
  }

  /** An object in the midst of things: on its way, with a plan, times, an image and bytes on its tape. */
  private static SandCars inTheMidst() {
    SandCars x = C.made(ROPES);
    x.slip(0, 1);
    x.on(20);
    x.image();
    x.on(11);
    x.undo(1);
    x.time(0, 7);
    x.time(1, 12);
    x.most(8);
    Checks.mine(x, "slope 8;x");
    Checks.put(x, "slope 6;            ");
    return x;
  }

  private static void refusedCallsChangeNothing() {
    SandCars x = inTheMidst();
    int[] before = Checks.look(x);
    for (int with : new int[] {-1, 401, Integer.MIN_VALUE, Integer.MAX_VALUE}) {
      C.throwsIllegal("mine", () -> x.mine(with));
      C.throwsNoSuch("count", () -> x.count(with));
      C.throwsNoSuch("rope", () -> x.rope(with, 0));
      C.throwsNoSuch("rope", () -> x.rope(0, with));
      C.throwsNoSuch("slip", () -> x.slip(with, 0) ? 1 : 0);
      C.due("slip", x.slip(0, with), false);
      C.throwsIllegal("on", () -> x.on(with));
      if (with < 0) C.throwsIllegal("undo", () -> x.undo(with));
      C.throwsNoSuch("safe", () -> x.safe(with));
      C.throwsIllegal("most", () -> x.most(with));
      C.throwsNoSuch("plan", () -> x.plan(with));
      C.throwsNoSuch("time", () -> x.time(with, 20));
      C.throwsNoSuch("breaks", () -> x.breaks(with));
      C.throwsNoSuch("worth", () -> x.worth(with, 1, 1));
      C.throwsIllegal("worth", () -> x.worth(0, with, 1));
      C.throwsIllegal("worth", () -> x.worth(0, 1, with));
    }
    C.same("nothing changes", before, Checks.look(x));
    SandCars y = inTheMidst();
    C.due("THE PLAN", x.plan(0), y.plan(0));
    C.due("FITTING", x.fitting(), y.fitting());
    C.due("SAFE", x.safe(2), y.safe(2));
    C.due("undone", x.undo(400), y.undo(400));
    C.same("undone", Checks.look(y), Checks.look(x));
    C.due("the image", x.restore(), y.restore());
    C.same("as the image", Checks.look(y), Checks.look(x));
    C.due("the tape", x.mine(8), 0);
    C.due("L", x.count(0), 6);
  }

  // restore: false: there is none.
  private static void noImage() {
    C.due("a new object", new SandCars().restore(), false);
    SandCars x = C.made(ROPES);
    x.on(9);
    int[] before = Checks.look(x);
    C.due("none", x.restore(), false);
    C.due("none", x.restore(), false);
    C.same("nothing changes", before, Checks.look(x));
  }

  // image: in place of another one.
  private static void imageInPlaceOfAnother() {
    SandCars x = C.made(ROPES);
    for (int i = 0; i < 5; i++) {
      x.on(3);
      x.image();
    }
    int[] last = Checks.look(x);
    x.on(50);
    C.due("restore", x.restore(), true);
    C.same("the last one", last, Checks.look(x));
  }

  private static void restoredAgainAndAgain() {
    SandCars x = C.made(ROPES);
    x.on(9);
    x.image();
    int[] kept = Checks.look(x);
    for (int i = 0; i < 5; i++) {
      x.on(20 * i);
      x.slip(0, 2);
      x.time(0, 5 + i);
      x.time(0, 0);
      x.undo(7 * i);
      C.due("restore", x.restore(), true);
      C.same("as it was, " + i, kept, Checks.look(x));
    }
    // an image of what was restored
    x.image();
    x.on(1);
    C.due("restore", x.restore(), true);
    C.same("as it was", kept, Checks.look(x));
  }

  private static void imageKeepsStateAndOre() {
    for (int seconds = 0; seconds <= 40; seconds++) {
      SandCars x = C.made(ROPES);
      x.on(seconds);
      int[] kept = Checks.look(x);
      x.image();
      x.on(30);
      int[] then = Checks.look(x);
      x.restore();
      C.same("behind " + seconds, kept, Checks.look(x));
      x.on(30);
      C.same("and on", then, Checks.look(x));
    }
  }

  private static void imageKeepsSlips() {
    SandCars x = C.made(ROPES);
    x.slip(0, 2);
    x.slip(1, 1);
    x.image();
    x.slip(0, 0);
    x.slip(1, 0);
    x.restore();
    C.due("SLIP of rope 0", x.rope(0, 7), 2);
    C.due("SLIP of rope 1", x.rope(1, 7), 1);
    x.on(3);
    C.due("by it", x.rope(0, 6), 5);
  }

  private static void imageKeepsWhatCanBeUndone() {
    SandCars x = C.made(ROPES);
    x.on(12);
    int[] twelve = Checks.look(x);
    x.on(8);
    x.image();
    x.undo(20);
    x.slip(0, 2);
    x.on(50);
    x.restore();
    C.due("can be UNDONE", x.count(9), 20);
    C.due("are UNDONE", x.undo(8), 8);
    C.same("as they went by then", twelve, Checks.look(x));
    // undone seconds can be undone again from the image
    x.restore();
    C.due("all of them", x.undo(21), 20);
    C.same("second 0", Checks.look(C.made(ROPES)), Checks.look(x));
  }

  private static void imageKeepsAFullRing() {
    SandCars x = C.made(ROPES);
    x.on(200);
    int[] at200 = Checks.look(x);
    x.on(200);
    x.on(100);
    x.image();
    x.on(200);
    x.on(150);
    x.undo(10);
    C.due("restore", x.restore(), true);
    C.due("seconds gone by", x.count(5), 500);
    C.due("can be UNDONE", x.count(9), 300);
    C.due("all that can", x.undo(301), 300);
    at200[9] = 0;
    C.same("behind 200", at200, Checks.look(x));
    C.due("no more", x.undo(1), 0);
  }

  private static void imageKeepsTimes() {
    SandCars x = C.made(ROPES);
    x.image();
    for (int i = 1; i <= 8; i++) x.time(0, i);
    x.restore();
    C.due("no TIMES", x.count(10), 0);
    C.due("FITTING without", x.fitting(), 1);
    C.due("in order", x.time(0, 7), 1);
    int rows = x.fitting();
    x.image();
    x.time(0, 8);
    x.restore();
    C.due("one TIME", x.count(10), 1);
    C.due("FITTING it", x.fitting(), rows);
    C.due("rows that fit", rows > 0, true);
    x.time(1, 12);
    C.due("none fits", x.fitting(), 0);
    x.restore();
    C.due("FITTING it", x.fitting(), rows);
    x.time(1, 11);
    C.due("rope 1 down in the 11th", x.fitting() > 0, true);
    x.restore();
    C.due("not in order", x.time(0, 7), SandCars.NONE);
    C.due("in order", x.time(1, 7), 2);
    for (int i = 3; i <= 8; i++) x.time(0, 10 + i);
    x.image();
    x.restore();
    C.due("8 TIMES", x.count(10), 8);
    C.due("there are 8", x.time(0, 200), SandCars.NONE);
  }

  private static void imageKeepsStatus() {
    SandCars x = C.made(CRASH);
    Checks.mine(x, "x");
    x.time(0, 0);
    x.on(9);
    x.on(9);
    x.image();
    Checks.mine(x, "x");
    x.time(0, 0);
    x.on(9);
    status("refused", x, 2, 2, 2);
    x.restore();
    status("as in the image", x, 1, 1, 1);
  }

  private static void imageWithHarm() {
    SandCars x = C.made(CRASH);
    x.on(9);
    int[] harm = Checks.look(x);
    x.image();
    x.undo(2);
    C.due("no HARM", x.count(7), 0);
    x.restore();
    C.same("HARM again", harm, Checks.look(x));
    C.due("no more can", x.on(1), 0);
    C.due("breaks", x.breaks(0), SandCars.NONE);
    C.due("undone", x.undo(1), 1);
    C.due("no HARM", x.count(7), 0);
    x.image();
    x.on(1);
    C.due("HARM", x.count(7), 1);
    x.restore();
    C.due("none in the image", x.count(7), 0);
    C.due("a second can go by", x.on(1), 1);
  }

  // AN IMAGE keeps the STATE, ORE, SLIPS, what can be UNDONE, TIMES, STATUS: neither the tape, nor THE PLAN, nor the FAULT's place.
  private static void imageKeepsNoMore() {
    SandCars x = C.made(ROPES);
    x.most(4);
    x.image();
    x.most(9);
    Checks.mine(x, "  x");
    x.feed(0, 0, 0, 0, 0);
    x.restore();
    C.due("the tape", x.count(11), 20);
    C.due("the FAULT's place", x.fault(), 2);
    C.due("THE PLAN", Checks.answer(() -> x.plan(9)), 0);
  }

  private static void imageIsGoneWithAnotherMine() {
    SandCars x = C.made(ROPES);
    x.on(9);
    x.image();
    Checks.mine(x, "x");
    C.due("not by a FAULT", x.restore(), true);
    Checks.mine(x, ROPES);
    C.due("gone", x.restore(), false);
    C.due("second 0", x.count(5), 0);
    x.image();
    C.due("a new one", x.restore(), true);
  }
}
