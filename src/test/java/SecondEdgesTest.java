/** The document's edges of a second, of on() and undo(), of slip(), count() and rope(), sentence by sentence. */
public final class SecondEdgesTest {
  private static final Checks C = new Checks();
  private static final int[] EXTREMES = {Integer.MIN_VALUE, Integer.MIN_VALUE + 1, -1000, 1000, 1 << 30, Integer.MAX_VALUE};
  private static final String ONE = "slope 4 siding 1;rope plain 9 4 glass 2 slips 3;";
  private static final String CRASH = "slope 4;rope plain 9 4 glass 2;";

  public static void main(String[] args) {
    atFirst();
    glassesOf1And30();
    pullBelowNeeds();
    pullOfFastOrMore();
    paceAtHalf();
    toLAtMost();
    togetherOrPast();
    allFourInTheSiding();
    moreThanTwoInTheSiding();
    meetingAheadOfACrowd();
    arriving();
    emptyGlassStaysEmpty();
    girlsByRopes();
    ruleClear();
    ruleHalf();
    ruleTurn();
    slipToldLast();
    secondWithHarm();
    harmIsUndone();
    atMost300Undone();
    undoneRoundAndRound();
    howManySecondsGoBy();
    howManyAreUndone();
    whichCount();
    whichRope();
    whichSlip();
    C.end();
  }

  private static void counts(String when, SandCars x, int from, int... want) {
    for (int i = 0; i < want.length; i++) C.due(when + ": count(" + (from + i) + ")", x.count(from + i), want[i]);
  }

  private static void ropes(String when, SandCars x, int rope, int from, int... want) {
    for (int i = 0; i < want.length; i++)
      C.due(when + ": rope(" + rope + ", " + (from + i) + ")", x.rope(rope, from + i), want[i]);
  }

  /** Where a rope is behind each second from the first on. */
  private static void path(String text, int rope, int... at) {
    SandCars x = C.made(text);
    for (int i = 0; i < at.length; i++) {
      x.on(1);
      C.due(text + " rope " + rope + " behind " + (i + 1), x.rope(rope, 5), at[i]);
    }
  }

  private static void harm(String text, int seconds, int harm) {
    SandCars x = C.made(text);
    C.due("seconds till harm of " + text, x.on(200), seconds);
    C.due("harm of " + text, x.count(7), harm);
  }

  private static void noHarm(String text) { harm(text, 200, 0); }

  // At first none moves, LEFT is N; which ROPE STARTED last (none at first).
  private static void atFirst() {
    SandCars x = C.made("rope men 9 4 glass 1 slips 3;rope water 9 4 glass 30;");
    ropes("at first", x, 0, 5, -1, 1, 0, 0);
    ropes("at first", x, 1, 5, -1, 30, 0, 0);
    counts("at first", x, 5, 0, 0, 0, SandCars.NONE, 0, 0);
  }

  // A GLASS of N seconds (1 to 30): the ROPE STARTS behind N seconds.
  private static void glassesOf1And30() {
    for (int n = 1; n <= 30; n++) {
      SandCars x = C.made("slope 4 siding 1;rope men 9 4 glass " + n + ";");
      x.on(n - 1);
      ropes("a second ahead of " + n, x, 0, 5, -1, 1, 0, 0);
      C.due("none STARTED", x.count(8), SandCars.NONE);
      x.on(1);
      ropes("behind " + n, x, 0, 5, 0, n, 0, 1);
      C.due("it STARTED", x.count(8), 0);
    }
  }

  // One whose PULL is below NEEDS never STARTS.
  private static void pullBelowNeeds() {
    int[][] weak = {{98, 0, 99}, {99, 1, 99}, {9, 9, 1}, {9, 10, 1}, {1, 98, 1}, {9, 5, 5}};
    for (int[] w : weak) {
      SandCars x = C.made("slope 4 siding 1;needs " + w[2] + ";rope men " + w[0] + " " + w[1] + " glass 1;");
      C.due("PULL", x.rope(0, 1), w[0] - w[1]);
      x.on(200);
      ropes("it never STARTS", x, 0, 5, -1, 0, 0, 0);
      counts("it never STARTS", x, 6, 0, 0, SandCars.NONE);
      C.due("nor for the most ore", x.most(60), 0);
      C.due("SAFE", x.safe(0), 1);
    }
    int[][] strong = {{99, 0, 99}, {9, 8, 1}, {1, 0, 1}, {9, 4, 5}};
    for (int[] s : strong) {
      SandCars x = C.made("slope 4 siding 1;needs " + s[2] + ";rope men " + s[0] + " " + s[1] + " glass 1;");
      x.on(5);
      counts("it STARTS", x, 6, s[0], 0, 0);
      C.due("the most ore", x.most(4), s[0]);
    }
  }

  // Plain: 2, if PULL is FAST or more, else 1; 99 without.
  private static void pullOfFastOrMore() {
    path("slope 8 siding 3;fast 5;rope plain 9 5 glass 1;", 0, 0, 1, 2, 3);
    path("slope 8 siding 3;fast 5;rope plain 9 4 glass 1;", 0, 0, 2, 4, 6, 0);
    path("slope 8 siding 3;fast 5;rope plain 9 3 glass 1;", 0, 0, 2, 4, 6, 0);
    path("slope 8 siding 3;rope plain 98 0 glass 1;", 0, 0, 1, 2, 3);
    path("slope 8 siding 3;rope plain 99 0 glass 1;", 0, 0, 2, 4, 6, 0);
    path("slope 8 siding 3;fast 1;rope plain 9 8 glass 1;", 0, 0, 2, 4, 6, 0);
    path("slope 8 siding 3;fast 1;rope men 99 0 glass 1;", 0, 0, 1, 2, 3);
  }

  // Water: 2 while AT is below L / 2, then 1; runaway: 1 while AT is below L / 2, then 3.
  private static void paceAtHalf() {
    int[][] water = {{0, 2}, {2, 2}, {4, 1}, {5, 1}, {6, 1}, {7, 1}};
    int[][] odd = {{0, 2}, {2, 2}, {4, 2}, {6, 1}, {7, 1}, {8, 1}, {9, 1}};
    int[][] runaway = {{0, 1}, {1, 1}, {2, 1}, {3, 1}, {4, 3}, {7, 3}};
    paces("slope 8 siding 3;rope water 9 4 glass 1;", water);
    paces("slope 10 siding 3;rope water 9 4 glass 1;", odd);
    paces("slope 8 siding 3;rope runaway 9 4 glass 1;", runaway);
  }

  private static void paces(String text, int[][] due) {
    SandCars x = C.made(text);
    for (int[] d : due) {
      x.on(1);
      C.due("AT of " + text, x.rope(0, 5), d[0]);
      C.due("PACE at " + d[0] + " of " + text, x.rope(0, 8), d[1]);
    }
    x.on(1);
    C.due("down", x.count(6), 9);
  }

  // (a) each ROPE that moves goes on by its PACE, to L at most.
  private static void toLAtMost() {
    for (int l = 4; l <= 20; l += 2) {
      String slope = "slope " + l + " siding " + Math.min(3, l / 2 - 1) + ";";
      arrivesIn(slope + "rope men 9 4 glass 1;", l);
      arrivesIn(slope + "rope plain 9 4 glass 1;", l);
      arrivesIn(slope + "rope runaway 9 4 glass 1;", l / 2 + (l / 2 + 2) / 3);
      if (l == 4) continue; // a pace of 2 has no room in the siding of 4
      arrivesIn(slope + "fast 5;rope plain 9 4 glass 1;", l / 2);
      arrivesIn(slope + "rope water 9 4 glass 1;", l - (l + 3) / 4);
    }
  }

  private static void arrivesIn(String text, int seconds) {
    SandCars x = C.made(text);
    x.on(seconds);
    C.due("not yet: " + text, x.count(6), 0);
    C.due("it moves: " + text, x.rope(0, 5) > 0, true);
    x.on(1);
    C.due("it ARRIVES: " + text, x.count(6), 9);
    C.due("and STARTS: " + text, x.rope(0, 5), 0);
  }

  // 0 now, or below 0 where it was above 0 ahead of the second, or the other way round.
  private static void togetherOrPast() {
    harm("slope 4;rope men 9 4 glass 1;", 3, 1);
    harm("slope 4;rope men 9 4 glass 30;", 32, 1);
    harm("slope 20;rope men 9 4 glass 1;", 11, 1);
    // 2 and 4, then 4 and 2; of 10: 4 and 6, then 6 and 4
    harm("slope 6;rope water 9 4 glass 1;", 3, 1);
    harm("slope 10;rope water 9 4 glass 1;", 4, 1);
    harm("slope 6;fast 5;rope plain 9 4 glass 1;", 3, 1);
    // of two ropes: both loaded cars at 1, both empty ones at 19
    harm("slope 20 siding 3;rope men 9 4 glass 1;rope men 9 4 glass 1;", 2, 1);
    // started together, by 2 and by 1: the loaded car goes from 12 to 14, the other's empty one from 14 to 13
    harm("slope 20 siding 2;fast 5;rope plain 9 4 glass 1;rope men 9 4 glass 1;", 8, 1);
    // rope 0 at 19, its empty car at 1, when rope 1 STARTS: 1 to 0 and 0 to 1
    harm("slope 20 siding 1;rope men 9 4 glass 1;rope men 9 4 glass 20;", 21, 1);
    // rope 1 STARTS in the second in which rope 0 ARRIVES: none is past
    SandCars x = C.made("slope 4 siding 1;rope men 9 4 glass 6 clear;rope men 9 4 glass 10;");
    C.due("one behind the other", x.on(14), 14);
    C.due("two are down", x.count(6), 18);
  }

  // But not if all four places (both cars', ahead and now) are in THE SIDING.
  private static void allFourInTheSiding() {
    for (int l = 4; l <= 20; l += 2) {
      harm("slope " + l + " siding 0;rope men 9 4 glass 1;", l / 2 + 1, 1);
      noHarm("slope " + l + " siding 1;rope men 9 4 glass 1;");
      noHarm("slope " + l + " siding 1;rope runaway 9 4 glass 1;");
      harm("slope " + l + ";rope runaway 9 4 glass 1;", l / 2 + 1, 1);
      if (l % 4 == 0 && l > 4) {
        // by 2 to the middle from two away
        harm("slope " + l + " siding 1;fast 5;rope plain 9 4 glass 1;", l / 4 + 1, 1);
        noHarm("slope " + l + " siding 2;fast 5;rope plain 9 4 glass 1;");
        harm("slope " + l + " siding 1;rope water 9 4 glass 1;", l / 4 + 1, 1);
        noHarm("slope " + l + " siding 2;rope water 9 4 glass 1;");
      }
      if (l % 4 == 2) {
        // by 2 past the middle from one away to one away
        harm("slope " + l + ";fast 5;rope plain 9 4 glass 1;", (l + 2) / 4 + 1, 1);
        noHarm("slope " + l + " siding 1;fast 5;rope plain 9 4 glass 1;");
      }
    }
    // 0 is in no siding: from there straight to the middle
    harm("slope 4 siding 1;fast 5;rope plain 9 4 glass 1;", 2, 1);
    harm("slope 4 siding 1;rope water 9 4 glass 1;", 2, 1);
  }

  // Else 2, if more than two cars are in THE SIDING now.
  private static void moreThanTwoInTheSiding() {
    noHarm("slope 20 siding 3;rope men 9 4 glass 1;");
    // places 4 to 8: rope 0 at 7 (and 5), rope 1 comes to 4 (and 8)
    harm("slope 12 siding 2;rope men 9 4 glass 1;rope men 9 4 glass 4;", 8, 2);
    SandCars x = C.made("slope 12 siding 2;rope men 9 4 glass 1;rope men 9 4 glass 4;");
    C.due("a second ahead of it", x.on(7), 7);
    C.due("a place ahead of the siding", x.rope(1, 5), 3);
    // rope 0 at 8 (and 4), rope 1 comes to 4 as well, from out of the siding
    harm("slope 12 siding 2;rope men 9 4 glass 1;rope men 9 4 glass 5;", 9, 1);
    harm("slope 12 siding 2;rope men 9 4 glass 1;rope men 9 4 glass 6;", 10, 1);
    // a rope that doesn't move has no cars
    noHarm("slope 12 siding 2;rope men 9 4 glass 1;rope men 4 9 glass 1;rope men 4 4 glass 1;");
    // three ropes in a siding of three: the second one in it is harm
    harm("slope 8 siding 3;rope men 9 4 glass 1;rope men 9 4 glass 3;rope men 9 4 glass 5;", 4, 2);
  }

  // 1 .. else 2.
  private static void meetingAheadOfACrowd() {
    // both loaded cars come to 1, all four cars are in 1 to 7 now
    harm("slope 8 siding 3;rope men 9 4 glass 1;rope men 9 4 glass 1;", 2, 1);
    // one comes to 1, one to 2: a crowd alone
    harm("slope 8 siding 3;fast 5;rope men 9 4 glass 1;rope plain 9 4 glass 1;", 2, 2);
  }

  // (c) A ROPE at L ARRIVES: it moves no more; ORE grows by its LOAD.
  private static void arriving() {
    SandCars x = C.made("slope 4 siding 1;rope men 99 98 glass 7 slips 3;");
    C.due("on", x.on(10), 10);
    ropes("a second ahead", x, 0, 5, 3, 4, 0, 1);
    C.due("no ORE", x.count(6), 0);
    x.on(1);
    ropes("down", x, 0, 5, -1, 3, 0, 0);
    counts("down", x, 5, 11, 99, 0, 0);
  }

  // (d) In each GLASS that isn't empty one second less is LEFT.
  private static void emptyGlassStaysEmpty() {
    SandCars x = C.made("slope 20 siding 3;rope men 9 4 glass 3;rope men 9 9 glass 1;rope men 9 4 glass 30 clear;");
    int[][] left = {{2, 0, 29}, {1, 0, 28}, {3, 0, 27}, {2, 0, 26}, {1, 0, 25}, {0, 0, 24}, {0, 0, 23}};
    for (int[] l : left) {
      x.on(1);
      for (int r = 0; r < 3; r++) C.due("LEFT of " + r + " at " + x.count(5), x.rope(r, 6), l[r]);
    }
    x.on(26);
    C.due("none is LEFT below 0", x.rope(2, 6), 0);
    C.due("nor of one that never STARTS", x.rope(1, 6), 0);
    C.due("it waits", x.rope(2, 5), -1);
  }

  // (e) Girls by ROPES .. (Those that START ahead of it in the same second move then.)
  private static void girlsByRopes() {
    SandCars x = C.made("slope 8 siding 3;rope men 9 4 glass 1 clear;rope men 9 4 glass 1 clear;rope men 9 4 glass 1 clear;");
    x.on(1);
    C.due("the first one", x.rope(0, 5), 0);
    C.due("not the second", x.rope(1, 5), -1);
    C.due("not the third", x.rope(2, 5), -1);
    SandCars y = C.made("slope 8 siding 3;rope men 9 4 glass 1 clear;rope men 9 4 glass 1;rope men 9 4 glass 1;");
    y.on(1);
    for (int r = 0; r < 3; r++) C.due("those behind it move not yet", y.rope(r, 5), 0);
    C.due("the last of them STARTED last", y.count(8), 2);
    SandCars z = C.made("slope 8 siding 3;rope men 9 4 glass 1;rope men 9 4 glass 1 half;");
    z.on(1);
    C.due("at 0, and that is below half", z.rope(1, 5), -1);
  }

  // Clear: no other ROPE moves.
  private static void ruleClear() {
    // rope 0 ARRIVES in the 5th, and moves no more when rope 1's girl looks
    path("slope 4 siding 1;rope men 9 4 glass 1 turn;rope men 9 4 glass 2 clear;", 1, -1, -1, -1, -1, 0, 1);
    path("slope 4 siding 1;rope men 9 4 glass 1 turn;rope men 9 4 glass 5 clear;", 1, -1, -1, -1, -1, 0, 1);
    path("slope 4 siding 1;rope men 9 4 glass 1 turn;rope men 9 4 glass 6 clear;", 1, -1, -1, -1, -1, -1, 0);
    // its own rope is no other
    path("slope 4 siding 1;rope men 9 4 glass 1 clear;", 0, 0, 1, 2, 3, 0, 1);
    // a rope that waits doesn't move
    path("slope 4 siding 1;rope men 9 4 glass 1 clear;rope men 4 9 glass 1 clear;", 0, 0, 1, 2, 3, 0, 1);
  }

  // Half: each other one that moves is at L / 2 or further.
  private static void ruleHalf() {
    for (int l = 8; l <= 20; l += 2) {
      SandCars x = C.made("slope " + l + " siding 3;rope men 9 4 glass 1;rope men 9 4 glass 1 half;");
      x.on(l / 2);
      C.due("at L / 2 - 1", x.rope(0, 5), l / 2 - 1);
      C.due("not half", x.rope(1, 5), -1);
      x.on(1);
      C.due("at L / 2", x.rope(0, 5), l / 2);
      C.due("half", x.rope(1, 5), 0);
    }
    // by 2 over the middle: 4, then 6 of 10
    path("slope 10 siding 3;fast 5;rope plain 9 4 glass 1;rope men 9 4 glass 1 half;", 1, -1, -1, -1, 0);
    // none moves
    path("slope 4 siding 1;rope men 9 4 glass 1 half;", 0, 0, 1, 2, 3, 0);
    // each other one: rope 0 is far enough behind 5, rope 1 STARTED a second ago
    path("slope 8 siding 1;rope men 9 4 glass 1;rope men 9 4 glass 4;rope men 9 4 glass 5 half;", 2, -1, -1, -1, -1, -1);
  }

  // Turn: it isn't the one that STARTED last.
  private static void ruleTurn() {
    // none STARTED at first
    path("slope 4 siding 1;rope men 9 4 glass 1 turn;", 0, 0, 1, 2, 3, -1, -1, -1, -1);
    // rope 1 STARTS in the 6th, in which rope 0's girl has looked already: she lets go in the 7th
    path("slope 4 siding 1;rope men 9 4 glass 1 turn;rope men 9 4 glass 6;", 0, 0, 1, 2, 3, -1, -1, 0);
    // the other way round rope 1's girl looks behind rope 0's START: rope 1 goes in the same second
    path("slope 4 siding 1;rope men 9 4 glass 6;rope men 9 4 glass 1 turn;", 1, 0, 1, 2, 3, -1, 0);
    // one STARTS behind the other in one second, and rules look at no car
    SandCars x = C.made("slope 4 siding 1;rope men 9 4 glass 1 turn;rope men 9 4 glass 1 turn;rope men 9 4 glass 2 turn;");
    x.on(1);
    counts("rope 1 STARTED last", x, 8, 1);
    C.due("rope 0 moves", x.rope(0, 5), 0);
    C.due("rope 1 moves", x.rope(1, 5), 0);
    C.due("rope 2's glass isn't empty", x.rope(2, 5), -1);
  }

  // In the mine a SLIP is what was told for the ROPE last (0 at first).
  private static void slipToldLast() {
    for (int slip = 0; slip <= 3; slip++) {
      SandCars x = C.made("slope 4 siding 1;rope men 9 4 glass 30 slips 3;rope men 4 9 glass 30 slips 3;");
      x.slip(0, 3 - slip);
      x.slip(1, 3 - slip);
      x.slip(0, slip);
      x.on(29);
      C.due("N at first", x.rope(0, 6), 1);
      x.on(1);
      C.due("N and the SLIP", x.rope(0, 6), 30 + slip);
      x.on(29 + slip);
      C.due("not yet", x.rope(0, 5), -1);
      x.on(1);
      C.due("again", x.rope(0, 5), 0);
      C.due("and the SLIP again", x.rope(0, 6), 30 + slip);
    }
  }

  // A second with HARM ends at (b): it goes by (ROPES have gone on; AT may be L), and no more can, until it is UNDONE.
  private static void secondWithHarm() {
    SandCars x = C.made("slope 8 siding 1;rope runaway 9 4 glass 1;rope men 7 2 glass 6;rope men 7 2 glass 7;");
    C.due("till harm", x.on(200), 7);
    counts("with harm", x, 5, 7, 0, 1, 1, 7);
    ropes("AT is L", x, 0, 5, 8, 0, 0, 3);
    ropes("gone on, but no second less", x, 1, 5, 1, 6, 0, 1);
    ropes("no girl lets go", x, 2, 5, -1, 1, 0, 0);
    int[] before = Checks.look(x);
    C.due("none asked", x.on(0), 0);
    C.same("none asked", before, Checks.look(x));
    C.due("no more can", x.on(1), 0);
    C.due("no more can", x.on(200), 0);
    counts("STATUS 1", x, 12, 0, 2, 0);
    for (int seconds : new int[] {-1, 201, Integer.MIN_VALUE, Integer.MAX_VALUE}) C.throwsIllegal("on", () -> x.on(seconds));
    counts("not by an exception", x, 12, 0, 2, 0);
    before[13] = 2;
    C.same("all else stays", before, Checks.look(x));
  }

  private static void harmIsUndone() {
    for (String text : new String[] {CRASH, "slope 8 siding 3;rope men 9 4 glass 1;rope men 9 4 glass 3;"}) {
      SandCars x = C.made(text);
      C.due("till harm", x.on(3), 3);
      int[] before = Checks.look(x);
      C.due("harm", x.on(9), 1);
      int[] behind = Checks.look(x);
      C.due("some HARM", behind[7] != 0, true);
      C.due("undone", x.undo(1), 1);
      C.same("as ahead of it", before, Checks.look(x));
      C.due("harm again", x.on(9), 1);
      C.same("as it was", behind, Checks.look(x));
      C.due("all undone", x.undo(9), 4);
      C.same("as at first", Checks.look(C.made(text)), Checks.look(x));
    }
    // a SLIP that is told then leads another way
    SandCars y = C.made("slope 4 siding 1;rope men 9 4 glass 10 clear;rope men 9 4 glass 5 slips 3;");
    C.due("both STARTED in the 10th", y.on(200), 11);
    C.due("undone", y.undo(7), 7);
    y.slip(1, 3);
    C.due("rope 1 STARTED in the 13th", y.on(200), 10);
    counts("with harm", y, 5, 14, 9, 1, 1);
  }

  // Seconds can be UNDONE, the last ones first (at most 300 that went by last).
  private static void atMost300Undone() {
    for (int seconds : new int[] {1, 299, 300, 301, 400, 600, 601}) {
      SandCars x = C.made(ONE);
      x.slip(0, 3);
      for (int gone = 0; gone < seconds; gone += 200) x.on(Math.min(200, seconds - gone));
      int can = Math.min(300, seconds);
      C.due("can be UNDONE of " + seconds, x.count(9), can);
      C.due("are UNDONE of " + seconds, x.undo(301), can);
      counts("undone of " + seconds, x, 9, 0);
      C.same("as in the second before", behind(seconds - can), Checks.look(x));
      C.due("no more of " + seconds, x.undo(1), 0);
    }
  }

  /** What a run with SLIPS of 3 shows behind some seconds, nothing of it being left to be undone. */
  private static int[] behind(int seconds) {
    SandCars x = C.made(ONE);
    x.slip(0, 3);
    for (int gone = 0; gone < seconds; gone += 200) x.on(Math.min(200, seconds - gone));
    int[] seen = Checks.look(x);
    seen[9] = 0;
    return seen;
  }

  private static void undoneRoundAndRound() {
    SandCars x = C.made(ONE);
    x.slip(0, 3);
    int second = 0;
    int can = 0;
    for (int i = 1; i <= 15; i++) {
      int on = i * 97 % 201;
      C.due("on(" + on + ")", x.on(on), on);
      second += on;
      can = Math.min(300, can + on);
      int back = i * 53 % 131;
      C.due("undo(" + back + ")", x.undo(back), Math.min(can, back));
      second -= Math.min(can, back);
      can -= Math.min(can, back);
      int[] due = behind(second);
      due[9] = can;
      C.same("round " + i, due, Checks.look(x));
    }
  }

  // on: so many seconds (0 to 200); IllegalArgumentException: how many.
  private static void howManySecondsGoBy() {
    SandCars x = C.made(ONE);
    int[] before = Checks.look(x);
    C.due("on(0)", x.on(0), 0);
    for (int seconds : new int[] {-1, 201, 202, -200}) C.throwsIllegal("on(" + seconds + ")", () -> x.on(seconds));
    for (int seconds : EXTREMES) C.throwsIllegal("on(" + seconds + ")", () -> x.on(seconds));
    C.same("nothing goes by", before, Checks.look(x));
    C.due("on(1)", x.on(1), 1);
    C.due("on(199)", x.on(199), 199);
    C.due("on(200)", x.on(200), 200);
    C.due("seconds gone by", x.count(5), 400);
    // harm in the last second that was asked for is no refusal
    SandCars y = C.made(CRASH);
    C.due("on(4)", y.on(4), 4);
    C.due("HARM in it", y.count(7), 1);
    C.due("not refused", y.count(13), 0);
    SandCars z = C.made(CRASH);
    C.due("on(5)", z.on(5), 4);
    C.due("ended by harm, not refused", z.count(13), 0);
    SandCars none = new SandCars();
    for (int i = 0; i < 500; i++) none.on(200);
    counts("without ropes", none, 5, 100000, 0, 0, -1, 300);
  }

  // undo: as many as can be; IllegalArgumentException: below 0.
  private static void howManyAreUndone() {
    SandCars x = C.made(ONE);
    C.due("none at first", x.undo(1), 0);
    C.due("none of many", x.undo(Integer.MAX_VALUE), 0);
    x.on(9);
    int[] before = Checks.look(x);
    C.due("undo(0)", x.undo(0), 0);
    for (int seconds : new int[] {-1, -9, Integer.MIN_VALUE}) C.throwsIllegal("undo(" + seconds + ")", () -> x.undo(seconds));
    C.same("nothing is undone", before, Checks.look(x));
    C.due("undo(4)", x.undo(4), 4);
    C.due("undo(6)", x.undo(6), 5);
    C.due("none is left", x.undo(1), 0);
    counts("no STATUS for it", x, 12, 0, 0, 0);
    C.due("at second 0", x.count(5), 0);
  }

  // count: NoSuchElementException: another what.
  private static void whichCount() {
    SandCars x = C.made(ONE);
    for (int what = 0; what < 15; what++) {
      int known = what;
      C.due("count(" + what + ")", Checks.answer(() -> x.count(known)) >= -1, true);
    }
    for (int what : new int[] {-1, 15, 16, -2}) C.throwsNoSuch("count(" + what + ")", () -> x.count(what));
    for (int what : EXTREMES) C.throwsNoSuch("count(" + what + ")", () -> x.count(what));
  }

  // rope: NoSuchElementException: no such ROPE (as everywhere), what.
  private static void whichRope() {
    String rope = "rope men 9 4 glass 2;";
    for (int ropes = 0; ropes <= 3; ropes++) {
      SandCars x = C.made(rope.repeat(ropes));
      for (int r = -2; r < 6; r++) {
        int of = r;
        boolean is = r >= 0 && r < ropes;
        C.due("rope(" + r + ") of " + ropes, Checks.answer(() -> x.rope(of, 0)), is ? 1 : Checks.NO_SUCH);
        C.due("slip(" + r + ") of " + ropes, Checks.answer(() -> x.slip(of, 0) ? 1 : 0), is ? 1 : Checks.NO_SUCH);
        C.due("breaks(" + r + ") of " + ropes, Checks.answer(() -> x.breaks(of)), is ? -1 : Checks.NO_SUCH);
        C.due("worth(" + r + ") of " + ropes, Checks.answer(() -> x.worth(of, 2, 9)), is ? 0 : Checks.NO_SUCH);
        C.due("time(" + r + ") of " + ropes, Checks.answer(() -> x.time(of, 200)), is ? r + 1 : Checks.NO_SUCH);
      }
      for (int r : EXTREMES) C.throwsNoSuch("rope(" + r + ", 0)", () -> x.rope(r, 0));
    }
    SandCars x = C.made(rope);
    for (int what = 0; what < 9; what++) {
      int known = what;
      C.due("rope(0, " + what + ")", Checks.answer(() -> x.rope(0, known)) >= -1, true);
    }
    for (int what : new int[] {-1, 9, 10}) C.throwsNoSuch("rope(0, " + what + ")", () -> x.rope(0, what));
    for (int what : EXTREMES) C.throwsNoSuch("rope(0, " + what + ")", () -> x.rope(0, what));
    C.throwsNoSuch("neither", () -> x.rope(1, 9));
    // fewer ropes than in the mine before
    Checks.mine(x, rope.repeat(3));
    Checks.mine(x, rope);
    C.throwsNoSuch("a rope of an earlier mine", () -> x.rope(1, 0));
  }

  // slip: false: it is not 0 to S.
  private static void whichSlip() {
    for (int most = 0; most <= 3; most++) {
      SandCars x = C.made("rope men 9 4 glass 2 slips " + most + ";");
      for (int slip = -2; slip < 6; slip++) {
        int before = x.rope(0, 7);
        boolean is = slip >= 0 && slip <= most;
        C.due("slip(0, " + slip + ") of " + most, x.slip(0, slip), is);
        C.due("the SLIP told", x.rope(0, 7), is ? slip : before);
      }
      int[] before = Checks.look(x);
      for (int slip : EXTREMES) C.due("slip(0, " + slip + ")", x.slip(0, slip), false);
      for (int rope : EXTREMES) C.throwsNoSuch("slip(" + rope + ", 0)", () -> x.slip(rope, 0) ? 1 : 0);
      C.throwsNoSuch("slip(1, 9)", () -> x.slip(1, 9) ? 1 : 0);
      C.same("nothing changes, and no STATUS", before, Checks.look(x));
    }
  }
}
