/** The document's edges of SAFE, THE MOST ORE, THE PLAN, TIMES, FITTING, BREAKS and WORTH, sentence by sentence. */
public final class SearchEdgesTest {
  private static final Checks C = new Checks();
  private static final int[] EXTREMES = {Integer.MIN_VALUE, Integer.MIN_VALUE + 1, -1000, 1000, 1 << 30, Integer.MAX_VALUE};
  private static final String ONE = "slope 4 siding 1;rope men 9 4 glass 2;";
  private static final String CRASH = "slope 4;rope men 9 4 glass 2;";
  private static final String MUCH = "slope 6 siding 2;rope runaway 9 8 glass 29 slips 3 clear;rope plain 9 8 glass 19 slips 3 clear;"
      + "rope plain 9 8 glass 5 slips 3 clear;";
  private static final int SPENT = -2;
  /** How many rows fit the times that 20,000 turns go through. */
  private static final int ROWS = 13608;

  public static void main(String[] args) {
    safeWithoutRopes();
    harmIsCounted();
    noneBehindHarm();
    moreThan4000States();
    whichSafe();
    mostOfHowManySeconds();
    alsoAtSecond0();
    arrivedByThen();
    noHarmForTheMost();
    whateverGlassesAndRules();
    moreThan4000Couples();
    firstPlanAsARow();
    whichSecondOfThePlan();
    spentKeepsThePlan();
    atMost8Times();
    secondsOfTimes();
    timesInOrder();
    timeOfNoRope();
    fittingWithoutTimes();
    fittingAtTheFirstAndLastSecond();
    turnsUpToTheLastSecond();
    justTheseArrive();
    withoutHarm();
    moreThan20000Turns();
    breaksOfNone();
    breaksWithoutOthers();
    noOtherStarts();
    whateverHarmAmongOthers();
    meetingAtTheSiding();
    meetingAtL();
    worthOfWhichGlass();
    worthOfHowManySeconds();
    harmEndsBoth();
    askingChangesNothing();
    askedInTurns();
    C.end();
  }

  private static void safes(String text, int safe, int soonest, int states) {
    SandCars x = C.made(text);
    C.due("safe(0) of " + text, x.safe(0), safe);
    C.due("safe(1) of " + text, x.safe(1), soonest);
    C.due("safe(2) of " + text, x.safe(2), states);
  }

  private static void safeWithoutRopes() {
    SandCars x = new SandCars();
    C.due("SAFE", x.safe(0), 1);
    C.due("no HARM", x.safe(1), SandCars.NONE);
    C.due("the first one counted", x.safe(2), 1);
    safes("slope 20 siding 3;", 1, -1, 1);
    // the glass runs out, and no more: 30 to 0
    safes("rope men 4 9 glass 30 slips 3;", 1, -1, 31);
  }

  // The fewest seconds to one (HARM itself counted).
  private static void harmIsCounted() {
    safes("slope 4;rope men 9 4 glass 1;", 0, 3, 3);
    safes("slope 4;fast 5;rope plain 9 4 glass 1;", 0, 2, 2);
    safes("slope 20;rope men 9 4 glass 30;", 0, 40, 40);
    safes("slope 20 siding 3;rope men 9 4 glass 1;rope men 9 4 glass 1;", 0, 2, 2);
    // by a SLIP of 0 both START in the 10th, by 1 to 3 rope 1 a second later each: 5 STATES till the 4th, 4 in each till
    // the 9th, then 4 of a START just now and those that wait
    safes("slope 4 siding 1;rope men 9 4 glass 10 clear;rope men 9 4 glass 5 slips 3;", 0, 11, 5 + 5 * 4 + 7 + 6 + 5 + 4);
  }

  // SPENT: more than 4000 STATES can be come to (the first one counted, none behind HARM).
  private static void noneBehindHarm() {
    // 30 with sand in the glass, then AT 0 to 9, and 10 is HARM
    safes("slope 20;rope men 9 4 glass 30;", 0, 40, 40);
    safes("slope 20 siding 1;rope men 9 4 glass 30 turn;", 1, -1, 30 + 20 + 11);
  }

  private static void moreThan4000States() {
    safes("slope 10 siding 1;rope men 9 3 glass 27 slips 2 clear;rope plain 9 7 glass 20 slips 3 clear;"
        + "rope runaway 9 6 glass 29 slips 2 clear;", 1, -1, 4000);
    safes("slope 4 siding 1;rope plain 9 7 glass 23 slips 3;rope men 9 1 glass 28 clear;rope runaway 9 8 glass 16 clear;", 0, 50, 4000);
    safes("slope 6 siding 2;rope runaway 9 5 glass 20 slips 2 clear;rope plain 9 7 glass 12 slips 2 clear;"
        + "rope plain 9 4 glass 23 slips 3 clear;", SPENT, SPENT, SPENT);
    safes("slope 6 siding 2;rope runaway 9 3 glass 9 slips 2 clear;rope water 9 7 glass 23 slips 2;rope water 9 6 glass 25 clear;",
        SPENT, SPENT, SPENT);
    // far more than 4000
    safes(MUCH, SPENT, SPENT, SPENT);
  }

  // safe: NoSuchElementException: another what.
  private static void whichSafe() {
    SandCars x = C.made(ONE);
    SandCars spent = C.made(MUCH);
    for (int what : new int[] {-1, 3, 4, -2}) {
      C.throwsNoSuch("safe(" + what + ")", () -> x.safe(what));
      C.throwsNoSuch("safe(" + what + ") of much", () -> spent.safe(what));
    }
    for (int what : EXTREMES) C.throwsNoSuch("safe(" + what + ")", () -> x.safe(what));
    C.due("behind them", x.safe(2), 6);
    C.due("behind them", spent.safe(2), SPENT);
    C.throwsNoSuch("behind an answer", () -> spent.safe(3));
  }

  // most: n seconds (0 to 60); IllegalArgumentException: n.
  private static void mostOfHowManySeconds() {
    SandCars x = C.made(ONE);
    C.due("most(4)", x.most(4), 9);
    for (int n : new int[] {-1, 61, 62, -60}) C.throwsIllegal("most(" + n + ")", () -> x.most(n));
    for (int n : EXTREMES) C.throwsIllegal("most(" + n + ")", () -> x.most(n));
    C.due("THE PLAN stays", x.plan(0), 1);
    C.throwsNoSuch("THE PLAN stays", () -> x.plan(5));
    C.due("most(0)", x.most(0), 0);
    C.due("most(60)", x.most(60), 9 * 15);
    SandCars none = new SandCars();
    C.due("without ropes", none.most(60), 0);
    for (int s = 0; s <= 60; s++) C.due("none START", none.plan(s), 0);
  }

  // Also at second 0, ahead of all, some may START.
  private static void alsoAtSecond0() {
    for (int l = 4; l <= 20; l += 2) {
      SandCars x = C.made("slope " + l + " siding 1;rope men 9 4 glass 30;");
      C.due("a second too few", x.most(l - 1), 0);
      C.due("none START", x.plan(0), 0);
      C.due("just enough", x.most(l), 9);
      C.due("at second 0", x.plan(0), 1);
      C.due("a second more", x.most(l + 1), 9);
      C.due("not at second 0", x.plan(0), 0);
      C.due("but at 1", x.plan(1), 1);
    }
  }

  // ORE of those that ARRIVED by then.
  private static void arrivedByThen() {
    SandCars x = C.made(ONE);
    for (int n = 0; n <= 60; n++) C.due("most(" + n + ")", x.most(n), n / 4 * 9);
  }

  // And no HARM is.
  private static void noHarmForTheMost() {
    SandCars x = C.made(CRASH);
    for (int n = 0; n <= 60; n += 5) C.due("none comes down", x.most(n), 0);
    for (int s = 0; s <= 60; s++) C.due("none START", x.plan(s), 0);
    // rope 0 can't come past its own other car, rope 1 can
    SandCars y = C.made("slope 8 siding 1;fast 5;rope plain 99 4 glass 1;rope men 7 2 glass 1;");
    C.due("the one that can", y.most(16), 14);
    C.due("rope 1 alone", y.plan(0), 2);
    // three together are harm: one behind the other
    SandCars z = C.made("slope 4 siding 1;rope men 9 4 glass 1;rope men 8 4 glass 1;rope men 7 4 glass 1;");
    C.due("one at a time", z.most(12), 27);
    C.due("the one with the most", z.plan(4), 1);
  }

  // Any of the ROPES that don't move and whose PULL is enough may be STARTED (whatever GLASSES, RULES).
  private static void whateverGlassesAndRules() {
    SandCars x = C.made("slope 4 siding 1;needs 5;rope men 9 4 glass 30 turn;rope men 99 95 glass 1;");
    C.due("again and again, and none that is too weak", x.most(60), 9 * 15);
    for (int s = 0; s <= 60; s++) C.due("plan(" + s + ")", x.plan(s), s % 4 == 0 && s < 60 ? 1 : 0);
  }

  // SPENT: more than 4000 couples of a second (0 to n) and where ROPES are behind what STARTED in it (also at n).
  private static void moreThan4000Couples() {
    SandCars x = C.made("slope 16 siding 3;rope men 9 0 glass 26;rope runaway 9 0 glass 10;");
    C.due("4000 couples", x.most(39), 27);
    C.due("more", x.most(40), SPENT);
    C.due("fewer", x.most(38), 27);
    SandCars y = C.made("slope 16 siding 2;rope runaway 9 5 glass 5;rope men 9 7 glass 10;");
    C.due("4001 couples", y.most(37), SPENT);
    C.due("fewer", y.most(36), 27);
    SandCars z = C.made("slope 20 siding 3;rope men 9 0 glass 1;rope water 9 0 glass 1;rope runaway 9 0 glass 1;");
    C.due("far more", z.most(60), SPENT);
    C.due("few", z.most(0), 0);
  }

  // THE PLAN: the first as a row of those by which it is most.
  private static void firstPlanAsARow() {
    SandCars x = C.made("slope 4 siding 1;rope men 9 4 glass 1;rope men 9 4 glass 1;rope men 9 4 glass 1;");
    C.due("most(11)", x.most(11), 18);
    int[] due = {0, 0, 0, 1, 0, 0, 0, 1, 0, 0, 0, 0};
    for (int s = 0; s < due.length; s++) C.due("as late, and of as few, as can be: plan(" + s + ")", x.plan(s), due[s]);
    SandCars y = C.made("slope 4 siding 1;rope men 8 4 glass 1;rope men 9 4 glass 1;rope men 9 4 glass 1;");
    C.due("most(8)", y.most(8), 18);
    C.due("rope 1, as bits", y.plan(0), 2);
    C.due("rope 1 again", y.plan(4), 2);
    SandCars z = C.made("slope 4 siding 1;rope men 8 4 glass 1;rope men 8 4 glass 1;rope men 9 4 glass 1;");
    C.due("most(4)", z.most(4), 9);
    C.due("rope 2, as bits", z.plan(0), 4);
  }

  // plan: NoSuchElementException: there is none, no such second of it.
  private static void whichSecondOfThePlan() {
    SandCars x = C.made(ONE);
    for (int s : new int[] {-1, 0, 1, 60}) C.throwsNoSuch("there is none: plan(" + s + ")", () -> x.plan(s));
    for (int n : new int[] {60, 0, 1, 59, 7}) {
      x.most(n);
      for (int s = 0; s <= n; s++) C.due("plan(" + s + ") of " + n, x.plan(s) == 0 || x.plan(s) == 1, true);
      for (int s : new int[] {-1, n + 1, 61, 62}) C.throwsNoSuch("plan(" + s + ") of " + n, () -> x.plan(s));
      for (int s : EXTREMES) C.throwsNoSuch("plan(" + s + ") of " + n, () -> x.plan(s));
    }
  }

  // most: -2: SPENT (what is kept stays).
  private static void spentKeepsThePlan() {
    SandCars x = C.made("slope 16 siding 3;rope men 9 0 glass 26;rope runaway 9 0 glass 10;");
    C.due("spent", x.most(60), SPENT);
    C.throwsNoSuch("none is kept", () -> x.plan(0));
    C.due("runaway, 8 and 3 seconds", x.most(11), 9);
    C.due("rope 1", x.plan(0), 2);
    C.due("spent", x.most(40), SPENT);
    C.due("it stays", x.plan(0), 2);
    C.due("to its end", x.plan(11), 0);
    C.throwsNoSuch("and no further", () -> x.plan(12));
  }

  private static SandCars threeRopes() {
    return C.made("slope 8 siding 3;rope men 9 4 glass 1;rope men 9 4 glass 1;rope men 9 4 glass 1;");
  }

  // TIMES (at most 8).
  private static void atMost8Times() {
    SandCars x = threeRopes();
    for (int i = 1; i <= 8; i++) {
      C.due("time", x.time(0, i), i);
      C.due("TIMES", x.count(10), i);
    }
    C.due("STATUS 2", x.count(14), 0);
    C.due("there are 8", x.time(0, 9), SandCars.NONE);
    C.due("there are 8", x.time(2, 200), SandCars.NONE);
    C.due("TIMES", x.count(10), 8);
    C.due("STATUS 2", x.count(14), 2);
    C.due("status 0 and 1 stay", x.count(12) + x.count(13), 0);
  }

  // At the end of a second (1 to 200).
  private static void secondsOfTimes() {
    for (int second : new int[] {0, -1, 201, 202}) {
      SandCars x = threeRopes();
      C.due("time(0, " + second + ")", x.time(0, second), SandCars.NONE);
      C.due("STATUS 2", x.count(14), 1);
      C.due("TIMES", x.count(10), 0);
    }
    SandCars x = threeRopes();
    for (int second : EXTREMES) C.due("time(0, " + second + ")", x.time(0, second), SandCars.NONE);
    C.due("STATUS 2", x.count(14), EXTREMES.length);
    C.due("time(0, 1)", x.time(0, 1), 1);
    C.due("time(0, 200)", x.time(0, 200), 2);
    C.due("time(0, 201)", x.time(0, 201), SandCars.NONE);
    C.due("time(0, 2)", x.time(0, 2), SandCars.NONE);
    C.due("time(1, 200)", x.time(1, 200), 3);
  }

  // Told in order (of one second by ROPES).
  private static void timesInOrder() {
    for (int rope = 0; rope < 3; rope++) {
      for (int second = 4; second <= 6; second++) {
        SandCars x = threeRopes();
        x.time(1, 5);
        boolean behind = second == 6 || second == 5 && rope == 2;
        C.due("time(" + rope + ", " + second + ") behind (1, 5)", x.time(rope, second), behind ? 2 : SandCars.NONE);
        C.due("STATUS 2", x.count(14), behind ? 0 : 1);
      }
    }
    // what was refused is nothing to be behind of
    SandCars x = threeRopes();
    x.time(0, 5);
    x.time(2, 4);
    x.time(0, 201);
    C.due("behind (0, 5)", x.time(1, 5), 2);
  }

  // NoSuchElementException (ahead): no such ROPE.
  private static void timeOfNoRope() {
    SandCars x = C.made(ONE);
    for (int rope : new int[] {-1, 1, 2, 3}) {
      for (int second : new int[] {5, 0, 201, -1}) C.throwsNoSuch("time(" + rope + ", " + second + ")", () -> x.time(rope, second));
    }
    for (int rope : EXTREMES) C.throwsNoSuch("time(" + rope + ", 5)", () -> x.time(rope, 5));
    for (int i = 1; i <= 8; i++) x.time(0, i);
    C.throwsNoSuch("also with 8", () -> x.time(1, 9));
    C.due("no STATUS for it", x.count(14), 0);
  }

  private static int fits(String text, int... times) {
    SandCars x = C.made(text);
    for (int i = 0; i < times.length; i += 2) C.due("time of " + text, x.time(times[i], times[i + 1]), i / 2 + 1);
    return x.fitting();
  }

  // fitting: 1 without TIMES.
  private static void fittingWithoutTimes() {
    C.due("a new object", new SandCars().fitting(), 1);
    C.due("harm at once", fits("slope 4;fast 1;rope plain 9 4 glass 1 slips 3;"), 1);
    SandCars x = C.made(ONE);
    C.due("a TIME that is refused is none", x.time(0, 0), SandCars.NONE);
    C.due("without TIMES", x.fitting(), 1);
  }

  // A second (1 to 200).
  private static void fittingAtTheFirstAndLastSecond() {
    C.due("too soon for any", fits("slope 4 siding 1;rope runaway 9 4 glass 1 slips 3;", 0, 1), 0);
    C.due("the soonest", fits("slope 4 siding 1;rope runaway 9 4 glass 1;", 0, 4), 1);
    // down at 50, 80, 110, 140, 170 and 200
    String slow = "slope 20 siding 1;rope men 9 4 glass 30";
    C.due("the last second", fits(slow + ";", 0, 50, 0, 80, 0, 110, 0, 140, 0, 170, 0, 200), 1);
    C.due("by SLIPS: the last turn's is free", fits(slow + " slips 3;", 0, 50, 0, 80, 0, 110, 0, 140, 0, 170, 0, 200), 4);
    C.due("a second late", fits(slow + ";", 0, 50, 0, 80, 0, 110, 0, 140, 0, 170, 0, 199), 0);
    C.due("none at 200 alone", fits(slow + ";", 0, 200), 0);
  }

  // SLIPS of turns up to that second, it counted.
  private static void turnsUpToTheLastSecond() {
    // down in the 5th, and at once turned again
    C.due("its turn counts", fits("slope 4 siding 1;rope men 9 4 glass 1 slips 2;", 0, 5), 3 * 3);
    // down in the 9th, turned again from the 10th on
    C.due("no turn then", fits("slope 4 siding 1;rope men 9 4 glass 5 slips 2;", 0, 9), 3);
    // rope 1's girl lets go too in the 5th, and what comes of it is behind the last second
    C.due("two turns then", fits("slope 4 siding 1;rope men 9 4 glass 1 slips 2;rope men 9 4 glass 5 slips 1;", 0, 5), 3 * 3 * 2);
    C.due("S of 0 is one row", fits("slope 4 siding 1;rope men 9 4 glass 1;", 0, 5, 0, 9, 0, 13), 1);
  }

  // Just these ROPES ARRIVE (at the seconds told; of one second by ROPES).
  private static void justTheseArrive() {
    String text = "slope 4 siding 1;rope men 9 4 glass 6 clear;rope men 9 4 glass 10 clear;";
    C.due("both", fits(text, 0, 10, 1, 14), 1);
    C.due("the first alone", fits(text, 0, 10), 1);
    C.due("the second alone", fits(text, 1, 14), 0);
    C.due("the other one", fits(text, 1, 10), 0);
    C.due("one too many", fits(text, 0, 10, 1, 10), 0);
    C.due("one in between", fits(text, 0, 10, 1, 11, 1, 14), 0);
    C.due("the last one late", fits(text, 0, 10, 1, 15), 0);
    C.due("the last one soon", fits(text, 0, 10, 1, 13), 0);
    C.due("all three", fits("rope men 9 4 glass 1;rope men 9 4 glass 1;rope men 9 4 glass 1;", 0, 5, 1, 5, 2, 5), 0);
  }

  // Without HARM.
  private static void withoutHarm() {
    // rope 0 down in the 5th, in which both START: HARM in the 6th
    String text = "slope 4 siding 1;rope men 9 4 glass 1;rope men 9 4 glass 5;";
    C.due("ahead of it", fits(text, 0, 5), 1);
    C.due("in it", fits(text, 0, 5, 0, 6), 0);
    C.due("behind it", fits(text, 0, 5, 0, 9), 0);
  }

  // SPENT: more than 20,000 turns are gone through (one for each SLIP that is tried).
  private static void moreThan20000Turns() {
    C.due("20000 turns", fits("slope 4 siding 1;rope men 9 1 glass 21 slips 2 clear;rope men 9 1 glass 2 slips 3 clear;"
        + "rope men 9 1 glass 12 slips 1 clear;", 1, 6, 1, 10, 1, 15, 1, 19, 1, 23, 0, 27, 1, 31, 1, 35), ROWS);
    C.due("20001 turns", fits("slope 12 siding 3;rope water 9 1 glass 19 slips 3 clear;rope men 9 1 glass 29 slips 2 clear;"
        + "rope runaway 9 1 glass 4 slips 2 clear;", 2, 12, 2, 20, 0, 29, 1, 41, 0, 50, 2, 58, 1, 70, 0, 79), SPENT);
    // 4 + 16 + .. + 4 to the 7th
    C.due("21844 turns", fits("slope 4 siding 1;rope men 9 1 glass 1 slips 3;", 0, 5, 0, 9, 0, 13, 0, 17, 0, 21, 0, 25), SPENT);
    C.due("5460 turns", fits("slope 4 siding 1;rope men 9 1 glass 1 slips 3;", 0, 5, 0, 9, 0, 13, 0, 17, 0, 21), 4096);
    C.due("far more", fits("slope 4 siding 1;rope men 9 1 glass 1 slips 3;", 0, 5, 0, 9, 0, 13, 0, 17, 0, 21, 0, 25, 0, 29, 0, 33), SPENT);
  }

  // breaks: NONE: none, it doesn't move, or there is HARM.
  private static void breaksOfNone() {
    SandCars x = C.made("slope 4;rope men 9 4 glass 2;rope men 9 4 glass 9;");
    C.due("it doesn't move", x.breaks(0), SandCars.NONE);
    x.on(2);
    C.due("it STARTED just now", x.breaks(0), SandCars.NONE);
    C.due("the other doesn't move", x.breaks(1), SandCars.NONE);
    x.on(2);
    C.due("HARM", x.count(7), 1);
    C.due("there is HARM", x.breaks(0), SandCars.NONE);
    for (int rope : new int[] {-1, 2, 3}) C.throwsNoSuch("breaks(" + rope + ")", () -> x.breaks(rope));
    for (int rope : EXTREMES) C.throwsNoSuch("breaks(" + rope + ")", () -> x.breaks(rope));
    // two that would still meet, had there not been HARM
    SandCars y = C.made("slope 20 siding 3;rope men 9 4 glass 1;rope men 9 4 glass 1;");
    y.on(1);
    C.due("loose 0 3 .. 15 and empty 20 19 .. 15", y.breaks(0), 5);
    y.on(1);
    C.due("there is HARM", y.breaks(0), SandCars.NONE);
  }

  private static void breaksWithoutOthers() {
    for (int l = 4; l <= 20; l += 2) {
      SandCars x = C.made("slope " + l + " siding 1;rope men 9 4 glass 1;");
      x.on(1);
      for (int at = 0; at < l; at++) {
        C.due("AT", x.rope(0, 5), at);
        C.due("its own cars don't meet", x.breaks(0), SandCars.NONE);
        x.on(1);
      }
    }
  }

  // No other ROPE STARTS.
  private static void noOtherStarts() {
    SandCars x = C.made("slope 20 siding 1;rope men 9 4 glass 1;rope men 7 2 glass 6;");
    x.on(5);
    C.due("a second to go", x.rope(1, 6), 1);
    C.due("it won't START", x.breaks(0), SandCars.NONE);
    x.on(1);
    // empty cars: 15 18 20 and 20 19 18
    C.due("it STARTED", x.breaks(0), 2);
  }

  // Others that move go on till they ARRIVE (whatever HARM among them).
  private static void whateverHarmAmongOthers() {
    SandCars x = C.made("slope 20;rope men 9 4 glass 1;rope men 7 2 glass 9;rope men 7 2 glass 9;");
    x.on(9);
    // ropes 1 and 2 are together from the first second on; rope 0's empty car, 12 15 18, and theirs, 20 19 18
    C.due("rope 0", x.breaks(0), 2);
    // rope 0's cars meet in the second; the loose one, 0 3 6 9, and rope 0's empty one, 12 11 10 9
    C.due("rope 1", x.breaks(1), 3);
    C.due("rope 2", x.breaks(2), 3);
  }

  // THE SIDING helps as there.
  private static void meetingAtTheSiding() {
    // rope 0 at 3, rope 1 at 0: loose 0 3 6 9 12 and 3 4 5 6 7, 9 8 7 6 5
    int[] due = {2, 2, 2, SandCars.NONE};
    for (int h = 0; h <= 3; h++) {
      SandCars x = C.made("slope 12 siding " + h + ";rope men 9 4 glass 1;rope men 7 2 glass 4;");
      x.on(4);
      C.due("a siding of " + h, x.breaks(1), due[h]);
    }
  }

  // To L at most; at L nothing meets.
  private static void meetingAtL() {
    // loose 0 3 6 8 and loaded 3 4 7 8: both at L in the third
    SandCars x = C.made("slope 8 siding 3;rope runaway 9 4 glass 1;rope men 7 2 glass 4;");
    x.on(4);
    C.due("both at L", x.breaks(1), SandCars.NONE);
    // loose 7 8 and empty 8 7: past one another ahead of L
    SandCars y = C.made("slope 8 siding 1;rope men 9 4 glass 1;rope men 7 2 glass 8;");
    y.on(8);
    C.due("past one another", y.breaks(0), 1);
  }

  // worth: IllegalArgumentException (behind NoSuchElementException): N.
  private static void worthOfWhichGlass() {
    SandCars x = C.made("slope 4 siding 1;rope men 9 4 glass 15;rope men 4 9 glass 15;");
    int[] before = Checks.look(x);
    for (int glass = 1; glass <= 30; glass++) {
      // down at N + 4, and every N then, or every 4
      int with = 0;
      for (int at = glass + 4; at <= 60; at += Math.max(4, glass)) with += 9;
      C.due("worth(0, " + glass + ", 60)", x.worth(0, glass, 60), with - 9 * 3);
      C.due("of a rope that never STARTS", x.worth(1, glass, 200), 0);
    }
    for (int glass : new int[] {0, -1, 31, 32}) {
      C.throwsIllegal("worth(0, " + glass + ", 60)", () -> x.worth(0, glass, 60));
      C.throwsNoSuch("worth(2, " + glass + ", 60)", () -> x.worth(2, glass, 60));
    }
    for (int glass : EXTREMES) C.throwsIllegal("worth(0, " + glass + ", 60)", () -> x.worth(0, glass, 60));
    for (int rope : EXTREMES) C.throwsNoSuch("worth(" + rope + ", 2, 60)", () -> x.worth(rope, 2, 60));
    for (int rope : new int[] {-1, 2, 3}) C.throwsNoSuch("worth(" + rope + ", 2, 60)", () -> x.worth(rope, 2, 60));
    C.same("all stays", before, Checks.look(x));
  }

  // n (0 to 200).
  private static void worthOfHowManySeconds() {
    SandCars x = C.made("slope 4 siding 1;rope men 9 4 glass 5;");
    C.due("no seconds", x.worth(0, 1, 0), 0);
    C.due("one ahead of the first that is down", x.worth(0, 1, 4), 0);
    C.due("the first that is down", x.worth(0, 1, 5), 9);
    C.due("down by both", x.worth(0, 1, 9), 9);
    // 49 by a glass of 1, at 5 + 4 k; 39 by one of 5, at 9 + 5 k, and none at 200
    C.due("200", x.worth(0, 1, 200), 9 * (49 - 39));
    C.due("199", x.worth(0, 1, 199), 9 * (49 - 39));
    for (int n : new int[] {-1, 201, 202}) {
      C.throwsIllegal("worth(0, 1, " + n + ")", () -> x.worth(0, 1, n));
      C.throwsNoSuch("worth(1, 1, " + n + ")", () -> x.worth(1, 1, n));
      C.throwsNoSuch("worth(1, 0, " + n + ")", () -> x.worth(1, 0, n));
    }
    for (int n : EXTREMES) C.throwsIllegal("worth(0, 1, " + n + ")", () -> x.worth(0, 1, n));
  }

  // HARM ends both where it is.
  private static void harmEndsBoth() {
    SandCars x = C.made("slope 4 siding 1;rope men 9 4 glass 4 clear;rope men 7 2 glass 4;");
    C.due("out of harm", x.worth(1, 30, 20), 36);
    C.due("harm in both, in the 5th and the 10th", x.worth(1, 9, 20), 9);
    C.due("harm in both at once", x.worth(0, 4, 20), 0);
    // rope 1 STARTS in the 30th, rope 0 in the 28th: down in the 8th, 12th .. 28th, and HARM in the 31st or so
    C.due("harm far on", x.worth(1, 30, 200), 9 * 6);
    SandCars y = C.made(CRASH);
    C.due("harm anyway", y.worth(0, 30, 200), 0);
  }

  // What is asked for changes nothing: SAFE, THE MOST ORE, FITTING are from the first STATE, whatever is now.
  private static void askingChangesNothing() {
    String text = "slope 4 siding 1;rope men 9 4 glass 3 slips 2 clear;rope men 7 2 glass 5 slips 1 clear;";
    SandCars x = C.made(text);
    x.time(0, 7);
    int[] first = {x.safe(0), x.safe(1), x.safe(2), x.most(9), x.fitting(), x.worth(0, 9, 50)};
    x.slip(0, 2);
    x.on(9);
    int[] before = Checks.look(x);
    int[] then = {x.safe(0), x.safe(1), x.safe(2), x.most(9), x.fitting(), x.worth(0, 9, 50)};
    for (int i = 0; i < first.length; i++) C.due("answer " + i, then[i], first[i]);
    x.breaks(0);
    x.plan(0);
    C.same("nothing changes", before, Checks.look(x));
    C.due("undo", x.undo(9), 9);
  }

  // Each answer is for itself: none leaves less for the next, not even one that was SPENT.
  private static void askedInTurns() {
    SandCars x = C.made("slope 4 siding 1;rope men 9 1 glass 21 slips 2 clear;rope men 9 1 glass 2 slips 3 clear;"
        + "rope men 9 1 glass 12 slips 1 clear;");
    int[] times = {1, 6, 1, 10, 1, 15, 1, 19, 1, 23, 0, 27, 1, 31, 1, 35};
    for (int i = 0; i < times.length; i += 2) x.time(times[i], times[i + 1]);
    int safe = x.safe(2);
    int most = x.most(20);
    C.due("one every four seconds", most, 45);
    for (int i = 0; i < 5; i++) {
      C.due("20000 turns again", x.fitting(), ROWS);
      C.due("couples again", x.most(20), most);
      C.due("STATES again", x.safe(2), safe);
      C.due("more", x.most(60), 135);
      C.due("few", x.most(3), 0);
    }
    SandCars z = C.made("slope 16 siding 3;rope men 9 0 glass 26;rope runaway 9 0 glass 10;");
    for (int i = 0; i < 3; i++) {
      C.due("4000 couples again", z.most(39), 27);
      C.due("spent", z.most(40), SPENT);
      C.due("few", z.most(11), 9);
    }
    SandCars y = C.made(MUCH);
    for (int i = 0; i < 3; i++) {
      C.due("spent", y.safe(i), SPENT);
      C.due("not spent", y.most(0), 0);
    }
  }
}
