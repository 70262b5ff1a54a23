/** Each promise by its number: ordinary inputs, the edges that the document names, and wrong inputs. */
public final class PromisesTest {
  private static final Checks C = new Checks();
  private static final String ONE = "slope 4 siding 1;rope plain 9 4 glass 2;";
  private static final String CRASH = "slope 4;rope plain 9 4 glass 2;";
  private static final int ALL_BLANK = 0x20202020;

  public static void main(String[] args) {
    aNewObject();
    feed();
    mine();
    mineAnew();
    faults();
    fault();
    count();
    rope();
    slip();
    onAndKinds();
    onAndRules();
    onAndHarm();
    undo();
    safe();
    most();
    plan();
    time();
    fitting();
    breaks();
    worth();
    imageAndRestore();
    C.end();
  }

  private static int blanks(SandCars x) { return x.feed(ALL_BLANK, ALL_BLANK, ALL_BLANK, ALL_BLANK, ALL_BLANK); }

  private static void counts(String when, SandCars x, int from, int... want) {
    for (int i = 0; i < want.length; i++) C.due(when + ": count(" + (from + i) + ")", x.count(from + i), want[i]);
  }

  private static void ropes(String when, SandCars x, int rope, int from, int... want) {
    for (int i = 0; i < want.length; i++)
      C.due(when + ": rope(" + rope + ", " + (from + i) + ")", x.rope(rope, from + i), want[i]);
  }

  private static void aNewObject() {
    SandCars x = new SandCars();
    counts("a new object", x, 0, 4, 0, 0, 1, 99, 0, 0, 0, -1, 0, 0, 0, 0, 0, 0);
    C.due("a new object: fault", x.fault(), SandCars.NONE);
    C.due("a new object: restore", x.restore(), false);
    C.throwsNoSuch("a new object: plan", () -> x.plan(0));
    C.throwsNoSuch("a new object: rope", () -> x.rope(0, 0));
    C.due("a new object: most", x.most(60), 0);
    C.due("a new object: on", x.on(200), 200);
  }

  private static void feed() {
    SandCars x = new SandCars();
    for (int i = 1; i <= 20; i++) C.due("feed", blanks(x), 20 * i);
    C.due("feed beyond 400", blanks(x), SandCars.NONE);
    C.due("the tape stays", x.count(11), 400);
    C.due("400 blanks are a mine", x.mine(400), 0);
    C.due("the tape is empty then", x.count(11), 0);
    // the highest byte first, the numbers in their order; a byte above 127 is none
    C.due("feed", x.feed(0x73_6c_6f_70, 0x65_20_36_3b, 0xff_20_20_20, 0, -1), 20);
    C.due("mine of the first 8", x.mine(8), 0);
    C.due("L", x.count(0), 6);
    x.feed(0x73_6c_6f_70, 0x65_20_36_3b, 0xff_20_20_20, 0, -1);
    C.due("mine of 9", x.mine(9), 1);
    C.due("its place", x.fault(), 8);
  }

  private static void mine() {
    SandCars x = new SandCars();
    C.throwsIllegal("mine(1) of an empty tape", () -> x.mine(1));
    blanks(x);
    C.throwsIllegal("mine(21)", () -> x.mine(21));
    C.throwsIllegal("mine(-1)", () -> x.mine(-1));
    C.throwsIllegal("mine(least)", () -> x.mine(Integer.MIN_VALUE));
    counts("nothing changes", x, 11, 20, 0, 0, 0);
    C.due("mine(0)", x.mine(0), 0);
    C.due("the tape is empty behind mine(0)", x.count(11), 0);
    String all = "slope 20 siding 3;needs 7 ;fast 30;\nrope water 99 0 glass 30 slips 3 turn;rope runaway 1 98 glass 1 always;"
        + "rope men 12 4 glass 7 half;";
    SandCars y = C.made(all);
    counts("all told", y, 0, 20, 3, 3, 7, 30, 0, 0, 0, -1, 0, 0, 0, 0, 0, 0);
    ropes("water", y, 0, 0, 2, 99, 30, 3, 3, -1, 30, 0, 0);
    ropes("runaway", y, 1, 0, 3, -97, 1, 0, 0, -1, 1, 0, 0);
    ropes("men", y, 2, 0, 1, 8, 7, 0, 2, -1, 7, 0, 0);
    SandCars z = C.made("fast 7;rope plain 3 1 glass 4 clear;needs 2;");
    counts("without a slope", z, 0, 4, 0, 1, 2, 7);
    ropes("clear", z, 0, 0, 0, 2, 4, 0, 1);
    SandCars w = C.made("slope004siding01;rope men 3 1glass 4slips 2half;");
    counts("no blanks", w, 0, 4, 1, 1);
    ropes("no blanks", w, 0, 0, 1, 2, 4, 2, 2);
  }

  private static void mineAnew() {
    SandCars x = C.made("slope 4 siding 1;rope plain 9 4 glass 2 slips 2;");
    x.slip(0, 2);
    x.on(7);
    x.time(0, 6);
    x.time(0, 6);
    x.most(5);
    x.image();
    C.due("a text with a fault", Checks.mine(x, "slope 5;"), 2);
    counts("all stays", x, 0, 4, 1, 1, 1, 99, 7, 9, 0, 0, 7, 1, 0, 1, 0, 1);
    ropes("all stays", x, 0, 3, 2, 0, 1, 3, 2, 1);
    C.due("the plan stays", x.plan(5), 0);
    C.due("times stay", x.time(0, 10), 2);
    C.due("the image stays", x.restore(), true);
    C.due("status as in the image", x.count(12), 0);
    C.due("a mine", Checks.mine(x, "slope 6;rope men 3 1 glass 4 slips 2;"), 0);
    counts("all anew", x, 0, 6, 0, 1, 1, 99, 0, 0, 0, -1, 0, 0, 0);
    ropes("all anew", x, 0, 0, 1, 2, 4, 2, 0, -1, 4, 0, 0);
    C.throwsNoSuch("the plan is gone", () -> x.plan(0));
    C.due("the image is gone", x.restore(), false);
    C.due("nothing to be undone", x.undo(9), 0);
    C.due("safety anew", x.safe(1), 7);
    C.due("a mine", Checks.mine(x, ""), 0);
    C.due("safety anew", x.safe(1), -1);
    C.due("no ropes", x.count(2), 0);
    C.due("a mine", Checks.mine(x, "rope men 3 1 glass 4 slips 2 turn;"), 0);
    C.due("a mine", Checks.mine(x, "slope 8 siding 2;needs 4;fast 5;rope men 3 1 glass 4 slips 3 half;"), 0);
    C.due("a mine", Checks.mine(x, "rope men 3 1 glass 4;"), 0);
    counts("nothing of earlier mines", x, 0, 4, 0, 1, 1, 99);
    ropes("nothing of earlier mines", x, 0, 2, 4, 0, 0);
  }

  private static void bad(String text, int code, int place) {
    SandCars x = new SandCars();
    C.due("mine of '" + text + "'", Checks.mine(x, text), code);
    C.due("the place in '" + text + "'", x.fault(), place);
    C.due("status of '" + text + "'", x.count(12), 1);
    C.due("the tape behind '" + text + "'", x.count(11), 0);
  }

  private static void faults() {
    bad("x", 1, 0);
    bad(" \n;", 1, 2);
    bad("7", 1, 0);
    bad("slope", 1, 5);
    bad("slope  ", 1, 7);
    bad("slope 8", 1, 7);
    bad("slope ;", 1, 6);
    bad("slope 8 8;", 1, 8);
    bad("slope 8 siding;", 1, 14);
    bad("slope 8 sidings 1;", 1, 8);
    bad("slopes 8;", 1, 0);
    bad("slopez 8;", 1, 0);
    bad("slopea 8;", 1, 0);
    bad("slope`8;", 1, 5);
    bad("slope{8;", 1, 5);
    bad("slope 8/", 1, 7);
    bad("slope 8:", 1, 7);
    bad("Slope 8;", 1, 0);
    bad("slope\t8;", 1, 5);
    bad("slope 8;\r", 1, 8);
    bad("slope 8;\u0000", 1, 8);
    bad("slope 8;\u00e1", 1, 8);
    bad("slope 8;;", 1, 8);
    bad("needs x;", 1, 6);
    bad("rope 9 4 glass 2;", 1, 5);
    bad("rope slope 9 4 glass 2;", 1, 5);
    bad("rope men 9 glass 2;", 1, 11);
    bad("rope men 9 4;", 1, 12);
    bad("rope men 9 4 2;", 1, 13);
    bad("rope men 9 4 glass;", 1, 18);
    bad("rope men 9 4 glass 2 slips;", 1, 26);
    bad("rope men 9 4 glass 2 slips turn;", 1, 27);
    bad("rope men 9 4 glass 2 turn slips 1;", 1, 26);
    bad("rope men 9 4 glass 2 turn turn;", 1, 26);
    bad("rope men 9 4 glass 2 1234;", 1, 21);
    bad("rope men 9 4 glass 2", 1, 20);
    bad("1234", 1, 0);
    bad("slope 2;", 2, 6);
    bad("slope 22;", 2, 6);
    bad("slope 7;", 2, 6);
    bad("slope 1000;", 2, 6);
    bad("slope 0008;", 2, 6);
    bad("slope 4 siding 2;", 2, 15);
    bad("slope 6 siding 3;", 2, 15);
    bad("slope 20 siding 4;", 2, 16);
    bad("needs 0;", 2, 6);
    bad("needs 100;", 2, 6);
    bad("fast 0;", 2, 5);
    bad("fast 100;", 2, 5);
    bad("rope men 0 4 glass 2;", 2, 9);
    bad("rope men 100 4 glass 2;", 2, 9);
    bad("rope men 9 99 glass 2;", 2, 11);
    bad("rope men 9 4 glass 0;", 2, 19);
    bad("rope men 9 4 glass 31;", 2, 19);
    bad("rope men 9 4 glass 2 slips 4;", 2, 27);
    String rope = "rope men 9 4 glass 2;";
    bad(rope + rope + rope + "rope x", 2, 63);
    bad("needs 1;slope 8;", 3, 8);
    bad("slope 8;slope 8;", 3, 8);
    bad("needs 1;slope x", 3, 8);
    bad("needs 1;fast 2;needs 1;", 4, 15);
    bad("fast 1;fast 100", 4, 7);
    bad("needs 1;needs 1;slope 8;", 4, 8);
    C.made("slope 20 siding 0;" + rope + rope + rope + "needs 1;fast 99;");
    C.made("slope 8 siding 3;rope men 1 98 glass 30 slips 0;");
    C.made("slope 6 siding 2;rope men 99 0 glass 1 slips 3;");
  }

  private static void fault() {
    SandCars x = new SandCars();
    Checks.mine(x, "slope 8;x");
    C.due("fault", x.fault(), 8);
    C.throwsIllegal("mine(1)", () -> x.mine(1));
    C.due("fault behind an exception", x.fault(), 8);
    x.image();
    Checks.mine(x, " x");
    x.restore();
    C.due("fault is of the latest", x.fault(), 1);
    Checks.mine(x, "");
    C.due("fault without", x.fault(), SandCars.NONE);
  }

  private static void count() {
    SandCars x = C.made("slope 8 siding 3;needs 3;fast 5;rope runaway 9 4 glass 1;");
    x.on(8);
    x.time(0, 3);
    blanks(x);
    counts("counts", x, 0, 8, 3, 1, 3, 5, 8, 9, 0, 0, 8, 1, 20, 0, 0, 0);
    C.throwsNoSuch("count(-1)", () -> x.count(-1));
    C.throwsNoSuch("count(15)", () -> x.count(15));
    C.throwsNoSuch("count(least)", () -> x.count(Integer.MIN_VALUE));
    SandCars y = C.made(CRASH);
    y.on(20);
    y.on(1);
    y.on(0);
    y.on(3);
    y.time(0, 0);
    y.time(0, 201);
    y.time(0, -1);
    Checks.mine(y, "x");
    counts("refused", y, 12, 1, 2, 3);
    Checks.mine(y, "");
    counts("what was refused stays, with another mine", y, 12, 1, 2, 3);
  }

  private static void rope() {
    SandCars x = C.made(ONE);
    for (int what : new int[] {-1, 9, 100}) C.throwsNoSuch("rope(0, " + what + ")", () -> x.rope(0, what));
    for (int rope : new int[] {-1, 1, 2, 3, 9}) C.throwsNoSuch("rope(" + rope + ", 0)", () -> x.rope(rope, 0));
    ropes("at first", x, 0, 0, 0, 5, 2, 0, 0, -1, 2, 0, 0);
    x.on(5);
    ropes("on the way", x, 0, 5, 3, 0, 0, 1);
    // the glass is empty long before the car is down, and is turned at the start alone
    x.on(1);
    ropes("started again", x, 0, 5, 0, 2, 0, 1);
  }

  private static void slip() {
    SandCars x = C.made("slope 4 siding 1;rope plain 9 4 glass 6 slips 2;");
    C.due("slip(0, 3)", x.slip(0, 3), false);
    C.due("slip(0, -1)", x.slip(0, -1), false);
    C.due("not told", x.rope(0, 7), 0);
    C.due("slip(0, 2)", x.slip(0, 2), true);
    C.due("told", x.rope(0, 7), 2);
    C.throwsNoSuch("slip(1, 0)", () -> x.slip(1, 0) ? 1 : 0);
    C.throwsNoSuch("slip(-1, 9)", () -> x.slip(-1, 9) ? 1 : 0);
    C.due("the glass of now stays", x.rope(0, 6), 6);
    x.on(6);
    C.due("a slip behind a turn", x.rope(0, 6), 8);
    C.due("slip(0, 1)", x.slip(0, 1), true);
    C.due("the glass of now stays", x.rope(0, 6), 8);
    x.on(8);
    C.due("the slip told last", x.rope(0, 6), 7);
    x.undo(14);
    C.due("undone, but what was told", x.rope(0, 7), 1);
    C.due("undone", x.rope(0, 6), 6);
  }

  private static void path(String text, int rope, int... at) {
    SandCars x = C.made(text);
    for (int i = 0; i < at.length; i++) {
      x.on(1);
      C.due(text + " behind " + (i + 1), x.rope(rope, 5), at[i]);
    }
  }

  private static void onAndKinds() {
    path("slope 8 siding 3;rope plain 9 4 glass 1;", 0, 0, 1, 2, 3, 4, 5, 6, 7, 0);
    path("slope 8 siding 3;fast 5;rope plain 9 4 glass 1;", 0, 0, 2, 4, 6, 0);
    path("slope 8 siding 3;fast 6;rope plain 9 4 glass 1;", 0, 0, 1, 2, 3, 4);
    path("slope 8 siding 3;fast 1;rope men 9 4 glass 1;", 0, 0, 1, 2, 3, 4, 5);
    path("slope 8 siding 3;fast 1;rope water 9 4 glass 1;", 0, 0, 2, 4, 5, 6, 7, 0);
    path("slope 10 siding 3;rope water 9 4 glass 1;", 0, 0, 2, 4, 6, 7);
    path("slope 8 siding 3;rope runaway 9 4 glass 1;", 0, 0, 1, 2, 3, 4, 7, 0);
    // a glass that is empty waits for its rope; one that isn't keeps the rope waiting
    path("slope 4 siding 1;rope plain 9 4 glass 6;", 0, -1, -1, -1, -1, -1, 0, 1, 2, 3, -1, -1, 0);
    // a pull below what is needed never starts
    path("slope 4 siding 1;needs 6;rope plain 9 4 glass 1;", 0, -1, -1, -1);
    path("slope 4 siding 1;needs 5;rope plain 9 4 glass 1;", 0, 0, 1, 2);
    path("slope 4 siding 1;rope plain 9 9 glass 1;", 0, -1, -1, -1);
    path("slope 4 siding 1;rope plain 9 98 glass 1;", 0, -1, -1, -1);
    SandCars x = C.made(ONE);
    C.throwsIllegal("on(-1)", () -> x.on(-1));
    C.throwsIllegal("on(201)", () -> x.on(201));
    C.due("on(0)", x.on(0), 0);
    C.due("on(200)", x.on(200), 200);
    counts("behind 200", x, 5, 200, 49 * 9, 0, 0, 200);
  }

  private static void onAndRules() {
    String two = "slope 8 siding 3;rope plain 9 4 glass 3;rope men 7 2 glass 1";
    // clear: the second waits for the first to be down
    path(two + " clear;", 1, 0, 1, 2);
    path("slope 8 siding 3;rope plain 9 4 glass 1;rope men 7 2 glass 1 clear;", 1, -1, -1, -1);
    path("slope 4 siding 1;rope men 9 4 glass 1 clear;rope men 7 2 glass 1 clear;", 1, -1, -1, -1, -1, -1, -1);
    path("slope 4 siding 1;rope men 9 4 glass 7 clear;rope men 7 2 glass 1 clear;", 1, 0, 1, 2, 3, 0, 1, 2);
    path("slope 4 siding 1;rope men 9 4 glass 1 turn;rope men 7 2 glass 1 clear;", 0, 0, 1, 2, 3, -1, 0, 1);
    path("slope 4 siding 1;rope men 9 4 glass 1 turn;rope men 7 2 glass 1 clear;", 1, -1, -1, -1, -1, 0, 1, 2);
    // half: at L / 2 or further
    path("slope 8 siding 3;rope men 9 4 glass 1;rope men 7 2 glass 1 half;", 1, -1, -1, -1, -1, 0);
    path("slope 8 siding 3;rope runaway 9 4 glass 1;rope men 7 2 glass 5 half;", 1, -1, -1, -1, -1, 0);
    path("slope 8 siding 3;rope men 9 4 glass 1;rope men 7 2 glass 4 half;", 1, -1, -1, -1, -1, 0);
    // turn: a rope alone goes once
    path("slope 4 siding 1;rope men 9 4 glass 1 turn;", 0, 0, 1, 2, 3, -1, -1, -1);
    SandCars x = C.made("slope 8 siding 3;rope men 9 4 glass 1;rope men 7 2 glass 1;rope men 7 2 glass 1 clear;");
    x.on(1);
    C.due("two start in one second", x.rope(1, 5), 0);
    C.due("the third is not clear", x.rope(2, 5), -1);
    C.due("the last of them started last", x.count(8), 1);
    x.undo(1);
    C.due("none started, undone", x.count(8), -1);
  }

  private static void harm(String text, int seconds, int harm) {
    SandCars x = C.made(text);
    C.due("on of " + text, x.on(200), seconds);
    C.due("harm of " + text, x.count(7), harm);
    C.due("seconds of " + text, x.count(5), seconds);
    C.due("no more: " + text, x.on(1), 0);
    C.due("refused: " + text, x.count(13), 1);
    C.due("none asked: " + text, x.on(0), 0);
    C.due("not refused: " + text, x.count(13), 1);
    C.due("undone: " + text, x.undo(1), 1);
    C.due("no harm, undone: " + text, x.count(7), 0);
    C.due("again: " + text, x.on(5), 1);
    C.due("harm again: " + text, x.count(7), harm);
  }

  private static void onAndHarm() {
    harm(CRASH, 4, 1);
    // the siding must hold both cars ahead and now
    harm("slope 8;rope men 9 4 glass 1;", 5, 1);
    harm("slope 10;rope water 9 4 glass 1;", 4, 1);
    C.due("a siding of 1", C.made("slope 8 siding 1;rope men 9 4 glass 1;").on(200), 200);
    C.due("past one another in the siding", C.made("slope 10 siding 1;rope water 9 4 glass 1;").on(200), 200);
    C.due("a siding of 2", C.made("slope 8 siding 2;rope water 9 4 glass 1;").on(200), 200);
    harm("slope 8 siding 1;rope water 9 4 glass 1;", 3, 1);
    // four cars in the siding
    harm("slope 8 siding 3;rope plain 9 4 glass 1;rope plain 7 2 glass 3;", 4, 2);
    // started together, of one pace: the loaded cars are at one place, out of the siding
    harm("slope 8 siding 1;rope men 9 4 glass 1;rope men 7 2 glass 1;", 2, 1);
    harm("slope 8 siding 3;rope men 9 4 glass 1;rope men 7 2 glass 1;", 2, 1);
    // together with another pace: not at one place, but the siding is crowded
    harm("slope 8 siding 3;fast 5;rope plain 9 4 glass 1;rope men 7 2 glass 1;", 2, 2);
    // the second starts as the first one's empty car comes up
    harm("slope 8 siding 1;rope men 9 4 glass 1;rope men 7 2 glass 8;", 9, 1);
    harm("slope 8 siding 1;rope men 9 4 glass 1;rope men 7 2 glass 7;", 8, 1);
    SandCars x = C.made("slope 8 siding 1;rope men 9 4 glass 1;rope men 7 2 glass 8;");
    x.on(9);
    counts("with harm", x, 5, 9, 0, 1, 1, 9);
    ropes("with harm at L", x, 0, 5, 8, 0, 0, 1);
    ropes("with harm", x, 1, 5, 1, 8, 0, 1);
    SandCars y = C.made("slope 8 siding 1;rope runaway 9 4 glass 1;rope men 7 2 glass 6;");
    C.due("till harm", y.on(50), 7);
    ropes("a runaway at L", y, 0, 5, 8, 0, 0, 3);
  }

  private static void undo() {
    SandCars x = C.made(ONE);
    C.due("nothing gone", x.undo(3), 0);
    C.throwsIllegal("undo(-1)", () -> x.undo(-1));
    x.on(200);
    x.on(101);
    counts("behind 301", x, 5, 301, 74 * 9, 0, 0, 300);
    C.due("undo(0)", x.undo(0), 0);
    C.due("undo(1)", x.undo(1), 1);
    counts("one undone", x, 5, 300, 74 * 9, 0, 0, 299);
    C.due("undo of all", x.undo(Integer.MAX_VALUE), 299);
    counts("all undone", x, 5, 1, 0, 0, -1, 0);
    C.due("LEFT as it was", x.rope(0, 6), 1);
    C.due("no more", x.undo(1), 0);
    x.on(200);
    x.on(200);
    x.on(200);
    counts("behind 601", x, 5, 601, 149 * 9, 0, 0, 300);
    C.due("undo", x.undo(250), 250);
    ropes("undone", x, 0, 5, 1, 1, 0, 1);
    counts("undone", x, 5, 351, 87 * 9, 0, 0, 50);
  }

  private static void safes(String text, int safe, int soonest, int states) {
    SandCars x = C.made(text);
    C.due("safe(0) of " + text, x.safe(0), safe);
    C.due("safe(1) of " + text, x.safe(1), soonest);
    C.due("safe(2) of " + text, x.safe(2), states);
    x.on(9);
    C.due("safe is from the first state: " + text, x.safe(2), states);
  }

  private static void safe() {
    SandCars none = new SandCars();
    C.throwsNoSuch("safe(-1)", () -> none.safe(-1));
    C.throwsNoSuch("safe(3)", () -> none.safe(3));
    safes("", 1, -1, 1);
    safes(ONE, 1, -1, 6);
    safes(CRASH, 0, 4, 4);
    safes("slope 4 siding 1;rope plain 9 4 glass 2 slips 1;", 1, -1, 9);
    safes("slope 4 siding 1;rope plain 9 4 glass 1 turn;", 1, -1, 6);
    // harm by no slips, and by one alone
    safes("slope 4 siding 1;rope men 9 4 glass 6;rope men 9 4 glass 4 slips 1 clear;", 0, 7, 10);
    safes("slope 8 siding 3;rope plain 9 4 glass 1;rope plain 7 2 glass 3;", 0, 4, 4);
    safes("slope 6 siding 2;fast 18;rope runaway 18 17 glass 29 slips 2 clear;rope plain 4 1 glass 19 slips 2 clear;"
        + "rope plain 8 5 glass 5 slips 3 clear;", -2, -2, -2);
    safes("slope 6 siding 2;fast 5;rope runaway 21 15 glass 22 clear;rope plain 11 4 glass 22 slips 3 clear;"
        + "rope water 20 10 glass 23 clear;", 1, -1, 4000);
    SandCars twice = C.made("slope 6 siding 2;fast 18;rope runaway 18 17 glass 29 slips 2 clear;"
        + "rope plain 4 1 glass 19 slips 2 clear;rope plain 8 5 glass 5 slips 3 clear;");
    C.due("spent", twice.safe(0), -2);
    Checks.mine(twice, ONE);
    C.due("not spent", twice.safe(0), 1);
    Checks.mine(twice, CRASH);
    C.due("another mine", twice.safe(1), 4);
    // 4001 states: spent, though there is harm
    safes("slope 8 siding 1;fast 11;rope plain 16 14 glass 21 slips 2;rope plain 11 7 glass 27 slips 2 clear;"
        + "rope runaway 19 15 glass 29 slips 2 clear;", -2, -2, -2);
  }

  private static void planned(String text, int n, int most, int... plan) {
    SandCars x = C.made(text);
    x.on(5);
    C.due("most(" + n + ") of " + text, x.most(n), most);
    for (int i = 0; i < plan.length; i++) C.due("plan(" + i + ") of " + text, x.plan(i), plan[i]);
    C.throwsNoSuch("plan behind the last of " + text, () -> x.plan(n + 1));
  }

  private static void most() {
    SandCars none = new SandCars();
    C.throwsIllegal("most(-1)", () -> none.most(-1));
    C.throwsIllegal("most(61)", () -> none.most(61));
    planned(ONE, 0, 0, 0);
    planned(ONE, 3, 0, 0, 0, 0, 0);
    planned(ONE, 4, 9, 1, 0, 0, 0, 0);
    planned(ONE, 5, 9, 0, 1, 0, 0, 0, 0);
    planned(ONE, 8, 18, 1, 0, 0, 0, 1, 0, 0, 0, 0);
    planned(ONE, 9, 18, 0, 1, 0, 0, 0, 1, 0, 0, 0, 0);
    planned(CRASH, 20, 0, 0, 0, 0, 0);
    planned("slope 4 siding 1;needs 6;rope plain 9 4 glass 2;", 9, 0, 0, 0);
    // whatever glasses and rules
    planned("slope 4 siding 1;rope plain 9 4 glass 30 turn;", 8, 18, 1, 0, 0, 0, 1);
    // one of two at a time: the better one, and of two as good the one with the lesser bit first
    planned("slope 4 siding 1;rope men 5 4 glass 1;rope men 7 4 glass 1;", 8, 14, 2, 0, 0, 0, 2);
    planned("slope 4 siding 1;rope men 7 4 glass 1;rope men 7 4 glass 1;", 8, 14, 1, 0, 0, 0, 1);
    planned("slope 8 siding 3;fast 3;rope men 7 5 glass 1;rope plain 4 1 glass 1;", 12, 12, 2, 0, 0, 0, 2, 0, 0, 0, 2, 0, 0, 0, 0);
    // harm behind the last second is none
    planned("slope 4 siding 1;rope men 7 4 glass 1;rope men 7 4 glass 1;", 4, 7, 1, 0, 0, 0, 0);
    String couples = "slope 8 siding 3;fast 14;rope plain 6 5 glass 18 clear;rope men 2 1 glass 27 slips 1 clear;rope runaway 8 2 glass 7;";
    SandCars x = C.made(couples);
    C.due("4000 couples", x.most(50), 64);
    C.due("spent", x.most(51), -2);
    C.due("the plan stays", Checks.answer(() -> x.plan(50)), 0);
    C.throwsNoSuch("the plan stays", () -> x.plan(51));
    C.due("4001 couples", C.made("slope 16 siding 2;fast 1;rope runaway 7 2 glass 10;rope men 15 4 glass 20 slips 3 clear;").most(37), -2);
  }

  private static void plan() {
    SandCars x = C.made(ONE);
    C.throwsNoSuch("no plan", () -> x.plan(0));
    x.most(4);
    C.due("plan(0)", x.plan(0), 1);
    C.due("plan(4)", x.plan(4), 0);
    C.throwsNoSuch("plan(5)", () -> x.plan(5));
    C.throwsNoSuch("plan(-1)", () -> x.plan(-1));
    C.throwsIllegal("most(99)", () -> x.most(99));
    C.due("the plan stays", x.plan(0), 1);
    x.most(0);
    C.due("another plan", x.plan(0), 0);
    C.throwsNoSuch("plan(1)", () -> x.plan(1));
    x.most(60);
    C.due("a plan of 61", x.plan(60), 0);
    C.throwsNoSuch("plan(61)", () -> x.plan(61));
  }

  private static void time() {
    SandCars x = C.made("slope 8 siding 3;rope men 9 4 glass 1;rope men 9 4 glass 1;rope men 9 4 glass 1;");
    C.throwsNoSuch("time(3, 0)", () -> x.time(3, 0));
    C.throwsNoSuch("time(-1, 5)", () -> x.time(-1, 5));
    C.due("not refused", x.count(14), 0);
    C.due("time(0, 0)", x.time(0, 0), -1);
    C.due("time(0, 201)", x.time(0, 201), -1);
    C.due("time(1, 1)", x.time(1, 1), 1);
    C.due("time(0, 1)", x.time(0, 1), -1);
    C.due("time(1, 1) again", x.time(1, 1), -1);
    C.due("time(2, 1)", x.time(2, 1), 2);
    C.due("time(0, 2)", x.time(0, 2), 3);
    C.due("time(2, 1)", x.time(2, 1), -1);
    for (int i = 4; i <= 8; i++) C.due("time", x.time(0, 192 + i), i);
    C.due("a 9th", x.time(1, 200), -1);
    counts("times", x, 10, 8);
    C.due("refused", x.count(14), 6);
  }

  private static int fits(String text, int... times) {
    SandCars x = C.made(text);
    for (int i = 0; i < times.length; i += 2) C.due("time of " + text, x.time(times[i], times[i + 1]), i / 2 + 1);
    x.on(3);
    return x.fitting();
  }

  private static void fitting() {
    String slow = "slope 4 siding 1;rope plain 9 4 glass 2 slips 1;";
    String late = "slope 4 siding 1;rope plain 9 4 glass 5 slips 1;";
    C.due("without times", fits(slow), 1);
    C.due("one time", fits(slow, 0, 6), 4);
    C.due("two", fits(slow, 0, 6, 0, 10), 8);
    C.due("one is left out", fits(slow, 0, 10), 0);
    C.due("too soon", fits(slow, 0, 5), 0);
    C.due("too late", fits(slow, 0, 7), 0);
    C.due("late", fits(late, 0, 9), 2);
    C.due("a slip of 0", fits(late, 0, 9, 0, 14), 2);
    C.due("a slip of 1", fits(late, 0, 9, 0, 15), 2);
    C.due("neither", fits(late, 0, 9, 0, 16), 0);
    C.due("with harm", fits("slope 4;rope plain 9 4 glass 2 slips 1;", 0, 6), 0);
    String two = "slope 4 siding 1;rope men 9 4 glass 1 slips 2;rope men 9 4 glass 1 slips 1 clear;";
    C.due("two ropes", fits(two, 0, 5), 3 * 3);
    C.due("the other one", fits(two, 1, 5), 0);
    // a row is left as soon as it doesn't fit, so the turns are those that fit up to their second
    String wide = "slope 4 siding 1;rope plain 9 4 glass 1 slips 3;";
    C.due("5460 turns", fits(wide, 0, 5, 0, 9, 0, 13, 0, 17, 0, 21), 4096);
    C.due("21844 turns", fits(wide, 0, 5, 0, 9, 0, 13, 0, 17, 0, 21, 0, 25), -2);
    C.due("spent, though none fits", fits(wide, 0, 5, 0, 9, 0, 13, 0, 17, 0, 21, 0, 25, 0, 30), -2);
    C.due("19963 turns", fits("slope 6 siding 1;rope water 9 1 glass 8 slips 3 clear;rope men 9 1 glass 11 slips 2 clear;"
        + "rope water 9 1 glass 22 slips 2 clear;", 0, 12, 1, 18, 0, 22, 2, 26, 1, 32, 0, 36, 1, 45, 0, 49) > 0, true);
    C.due("20004 turns", fits("slope 8 siding 2;rope men 9 1 glass 26 slips 3 clear;rope runaway 9 1 glass 12 slips 2 clear;"
        + "rope water 9 1 glass 6 slips 3 clear;", 2, 12, 1, 18, 2, 24, 1, 30, 0, 38, 1, 44, 2, 50, 1, 56), -2);
    C.due("without times there is no second", fits(wide), 1);
    SandCars again = C.made(wide);
    for (int i = 0; i < 5; i++) again.time(0, 5 + 4 * i);
    for (int i = 0; i < 5; i++) C.due("turns are counted anew", again.fitting(), 4096);
    Checks.mine(again, wide);
    again.time(0, 5);
    C.due("another mine's times", again.fitting(), 16);
    again.image();
    again.time(0, 9);
    C.due("two times", again.fitting(), 64);
    again.restore();
    again.time(0, 12);
    C.due("as in the image, and one that doesn't fit", again.fitting(), 0);
    C.due("left before it is spent", fits(wide, 0, 5, 0, 9, 0, 13, 0, 17, 0, 22, 0, 30, 0, 40, 0, 50), 0);
  }

  private static int broken(String text, int seconds, int rope) {
    SandCars x = C.made(text);
    C.due("on of " + text, x.on(seconds), seconds);
    int answer = x.breaks(rope);
    C.due("nothing changes by breaking: " + text, x.count(5), seconds);
    return answer;
  }

  private static void breaks() {
    SandCars x = C.made(ONE);
    C.throwsNoSuch("breaks(1)", () -> x.breaks(1));
    C.throwsNoSuch("breaks(-1)", () -> x.breaks(-1));
    C.due("it doesn't move", x.breaks(0), -1);
    x.on(3);
    C.due("none else moves", x.breaks(0), -1);
    SandCars y = C.made(CRASH);
    y.on(4);
    C.due("there is harm", y.breaks(0), -1);
    // rope 0 at 4, its empty car at 16; rope 1 at 0, its empty car at 20
    String long20 = "slope 20 siding 1;rope men 9 4 glass 1;rope men 7 2 glass 5;";
    // rope 0's loaded car, 4 7 10 13, and rope 1's empty one, 20 19 18 17 16 15: 16 and 16 in the 4th;
    // rope 0's empty car, 16 19, and rope 1's empty one, 20 19: both at 19 in the 1st
    C.due("back into the one that follows", broken(long20, 5, 0), 1);
    // rope 0 at 6: its empty car, 14 17 20, goes past rope 1's, 20 19 18, in the 2nd
    C.due("back past the one that follows", broken("slope 20 siding 1;rope men 9 4 glass 1;rope men 7 2 glass 7;", 7, 0), 2);
    // rope 1's loaded car, 0 3 6, and rope 0's loaded one, 4 5 6: both at 6 in the 2nd
    C.due("on into the one ahead", broken(long20, 5, 1), 2);
    // rope 0 at 9 (empty 11), rope 1 at 0: 9 12 15 18 20 against 20 19 18 17 in the 3rd; 11 14 17 20 against 18: in the 3rd too
    C.due("both behind the siding", broken("slope 20 siding 1;rope men 9 4 glass 1;rope men 7 2 glass 10;", 10, 0), 3);
    // rope 1's loaded car, 0 3 6 9 12, meets rope 0's empty one, 11 10 9 8, in the 3rd: 6 to 9 isn't all in the siding
    C.due("partly in the siding", broken("slope 20 siding 1;rope men 9 4 glass 1;rope men 7 2 glass 10;", 10, 1), 3);
    // in the 2nd 3 to 6 goes past 4 to 5, in the 3rd 6 to 9 past 7 to 6; all four places are in the siding, or not
    C.due("in a siding of 3", broken("slope 12 siding 3;rope men 9 4 glass 1;rope men 7 2 glass 4;", 4, 1), -1);
    C.due("in a siding of 2", broken("slope 12 siding 2;rope men 9 4 glass 1;rope men 7 2 glass 4;", 4, 1), 2);
    // rope 0 at 7 of 8, rope 1 at 0: 7 to 8 goes past 8 to 7, and that is ahead of L
    C.due("past it at the end", broken("slope 8 siding 1;rope men 9 4 glass 1;rope men 7 2 glass 8;", 8, 0), 1);
    // rope 0's loaded car, 3 4 7 8, and rope 1's, 0 3 6 8: both at L in the 3rd; 3 to 6 goes past 4 to 1 in the siding
    C.due("at L nothing meets", broken("slope 8 siding 3;rope runaway 9 4 glass 1;rope men 7 2 glass 4;", 4, 1), -1);
  }

  private static void worth() {
    SandCars x = C.made("slope 4 siding 1;rope plain 9 4 glass 5 slips 1;");
    C.due("a shorter glass", x.worth(0, 2, 20), 9);
    C.due("the same", x.worth(0, 5, 20), 0);
    C.due("a longer one", x.worth(0, 30, 20), -27);
    C.due("no seconds", x.worth(0, 1, 0), 0);
    C.due("N stays", x.rope(0, 2), 5);
    C.throwsIllegal("worth(0, 0, 20)", () -> x.worth(0, 0, 20));
    C.throwsIllegal("worth(0, 31, 20)", () -> x.worth(0, 31, 20));
    C.throwsIllegal("worth(0, 2, -1)", () -> x.worth(0, 2, -1));
    C.throwsIllegal("worth(0, 2, 201)", () -> x.worth(0, 2, 201));
    C.throwsNoSuch("worth(1, 2, 20)", () -> x.worth(1, 2, 20));
    C.throwsNoSuch("worth(1, 0, 201)", () -> x.worth(1, 0, 201));
    C.throwsNoSuch("worth(-1, 2, 20)", () -> x.worth(-1, 2, 20));
    x.slip(0, 1);
    x.on(7);
    C.due("by slips of 0, from the first state", x.worth(0, 2, 20), 9);
    C.due("200 seconds", x.worth(0, 1, 200), 9 * (49 - 39));
    // harm ends each where it is
    SandCars y = C.made("slope 4 siding 1;rope men 9 4 glass 4 clear;rope men 7 2 glass 30;");
    C.due("safe in 20 seconds", y.worth(1, 30, 20), 0);
    C.due("into harm at once", y.worth(1, 4, 20), -36);
    C.due("into harm at 10", y.worth(1, 9, 20), -27);
  }

  private static void imageAndRestore() {
    SandCars x = C.made("slope 4 siding 1;rope plain 9 4 glass 2 slips 1;");
    C.due("no image", x.restore(), false);
    x.slip(0, 1);
    x.time(0, 6);
    x.on(7);
    x.most(4);
    x.image();
    x.slip(0, 0);
    x.time(0, 10);
    x.time(0, 10);
    x.on(200);
    x.on(200);
    x.undo(300);
    x.most(3);
    Checks.mine(x, "x");
    blanks(x);
    C.due("restore", x.restore(), true);
    counts("as the image", x, 5, 7, 9, 0, 0, 7, 1, 20, 0, 0, 0);
    ropes("as the image", x, 0, 5, 1, 2, 1, 1);
    C.due("the plan is no part of it", x.plan(0), 0);
    C.due("undo as in the image", x.undo(9), 7);
    ropes("undone", x, 0, 5, -1, 2, 1, 0);
    counts("undone", x, 5, 0, 0, 0, -1, 0);
    C.due("times as in the image", x.fitting(), 4);
    C.due("restore again", x.restore(), true);
    counts("as the image again", x, 5, 7, 9, 0, 0, 7);
    x.on(1);
    x.image();
    x.on(9);
    x.restore();
    counts("another image", x, 5, 8, 9, 0, 0, 8);
    SandCars y = C.made(CRASH);
    y.on(9);
    y.on(9);
    y.image();
    y.undo(4);
    y.restore();
    counts("an image with harm", y, 5, 4, 0, 1, 0, 4, 0, 0, 0, 1, 0);
    C.due("an image with harm, undone", y.undo(1), 1);
    SandCars z = new SandCars();
    z.image();
    z.on(4);
    C.due("an image of a new object", z.restore(), true);
    C.due("second 0", z.count(5), 0);
  }
}
