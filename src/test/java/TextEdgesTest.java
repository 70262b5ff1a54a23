/** The document's edges of a text, of the tape, of mine() and of fault(), sentence by sentence. */
public final class TextEdgesTest {
  private static final Checks C = new Checks();
  private static final String ROPE = "rope men 9 4 glass 2;";
  private static final String BLANKS = " ".repeat(400);
  private static final int FOUR_BLANKS = 0x20202020;

  public static void main(String[] args) {
    slopeIs4To20AndEven();
    sidingIs0To3AndLessThanHalf();
    loadIs1To99();
    emptyIs0To98();
    glassIs1To30();
    slipsAre0To3();
    needsIs1To99();
    fastIs1To99();
    whatIsNotTold();
    atMostThreeRopes();
    textOf400Bytes();
    noLines();
    numbersOf1To3Digits();
    numbersThatWrapAround();
    everySignAheadOfALine();
    everySignBehindAWord();
    everySignBehindANumber();
    wordsAreTheLongestRow();
    textThatEndsTooSoon();
    slopeIsTheFirstLine();
    needsAndFastOnce();
    firstFaultAlongTheText();
    leastFaultOfOneToken();
    tapeThatIsFull();
    highestByteFirst();
    tapeIsEmptyBehindMine();
    moreThanTheTapeHas();
    allStaysWithAFault();
    allIsAnewWithoutOne();
    nothingOfEarlierMines();
    faultOfTheLatestMine();
    C.end();
  }

  private static SandCars good(String text) {
    SandCars x = C.made(text);
    C.due("fault of '" + text + "'", x.fault(), SandCars.NONE);
    C.due("STATUS 0 of '" + text + "'", x.count(12), 0);
    return x;
  }

  private static void bad(String text, int code, int place) {
    SandCars x = new SandCars();
    C.due("mine of '" + text + "'", Checks.mine(x, text), code);
    C.due("the place in '" + text + "'", x.fault(), place);
    C.due("STATUS 0 of '" + text + "'", x.count(12), 1);
  }

  /** A number of 0 to 999 in the middle of a text: read if it is one of the told ones, else too much. */
  private static void numbers(String ahead, String behind, int least, int greatest, int step, int fact) {
    for (int v = 0; v < 1000; v++) {
      String text = ahead + v + behind;
      if (v < least || v > greatest || (v - least) % step != 0) {
        bad(text, 2, ahead.length());
        continue;
      }
      SandCars x = good(text);
      C.due(text, fact < 100 ? x.count(fact) : x.rope(0, fact - 100), v);
    }
  }

  // THE SLOPE is L steps long (4 to 20, even; 4 without).
  private static void slopeIs4To20AndEven() {
    numbers("slope ", ";", 4, 20, 2, 0);
    numbers("slope ", " siding 1;", 4, 20, 2, 0);
  }

  // H 0 to 3, less than L / 2; 0 without.
  private static void sidingIs0To3AndLessThanHalf() {
    numbers("slope 4 siding ", ";", 0, 1, 1, 1);
    numbers("slope 6 siding ", ";", 0, 2, 1, 1);
    for (int l = 8; l <= 20; l += 2) numbers("slope " + l + " siding ", ";", 0, 3, 1, 1);
  }

  // A LOAD (1 to 99): the PULL is what it has more than the EMPTY.
  private static void loadIs1To99() { numbers("rope plain ", " 0 glass 1;", 1, 99, 1, 101); }

  private static void emptyIs0To98() {
    for (int v = 0; v < 1000; v++) {
      String text = "rope plain 50 " + v + " glass 1;";
      if (v > 98) bad(text, 2, 14);
      else C.due("PULL of " + text, good(text).rope(0, 1), 50 - v);
    }
  }

  private static void glassIs1To30() { numbers("rope water 9 4 glass ", ";", 1, 30, 1, 102); }

  private static void slipsAre0To3() { numbers("rope runaway 9 4 glass 7 slips ", " half;", 0, 3, 1, 103); }

  private static void needsIs1To99() { numbers("needs ", ";", 1, 99, 1, 3); }

  private static void fastIs1To99() { numbers("fast ", ";", 1, 99, 1, 4); }

  private static void whatIsNotTold() {
    int[] none = {4, 0, 0, 1, 99};
    for (int what = 0; what < 5; what++) {
      C.due("count(" + what + ") of an empty text", good("").count(what), none[what]);
      C.due("count(" + what + ") of a new object", new SandCars().count(what), none[what]);
    }
    SandCars x = good("slope 20;" + ROPE);
    C.due("H without", x.count(1), 0);
    C.due("S without", x.rope(0, 3), 0);
    C.due("RULE without", x.rope(0, 4), 0);
    String[] rules = {"always", "clear", "half", "turn"};
    String[] kinds = {"plain", "men", "water", "runaway"};
    for (int i = 0; i < 4; i++) {
      C.due(rules[i], good("rope men 9 4 glass 2 " + rules[i] + ";").rope(0, 4), i);
      C.due(rules[i] + " behind slips", good("rope men 9 4 glass 2 slips 1 " + rules[i] + ";").rope(0, 4), i);
      C.due(kinds[i], good("rope " + kinds[i] + " 9 4 glass 2;").rope(0, 0), i);
    }
  }

  // ROPES 0, 1, 2 (at most 3); 2: the first TOKEN of the 4th ROPE.
  private static void atMostThreeRopes() {
    String many = "";
    for (int i = 0; i <= 3; i++) {
      C.due("ROPES", good(many).count(2), i);
      many += ROPE;
    }
    bad(many, 2, 63);
    bad(ROPE + ROPE + ROPE + "needs 1; rope", 2, 72);
    bad(ROPE + ROPE + ROPE + "rope men 0 4 glass 31;", 2, 63);
    bad(ROPE + ROPE + ROPE + "ropes", 1, 63);
    bad(ROPE + ROPE + ROPE + "needs rope", 1, 69);
    bad(ROPE + ROPE + "rope men 9 4 glass 2 rope", 1, 63);
    good(ROPE + ROPE + ROPE + "needs 1;fast 1;");
  }

  // A TEXT of at most 400 bytes.
  private static void textOf400Bytes() {
    String line = "fast 7;";
    C.due("a LINE that ends at byte 400", good(BLANKS.substring(line.length()) + line).count(4), 7);
    C.due("a LINE at the beginning of 400", good(line + BLANKS.substring(line.length())).count(4), 7);
    bad(BLANKS.substring(line.length() - 1) + "fast 7", 1, 400);
    bad("fast" + BLANKS.substring(4), 1, 400);
    bad(BLANKS.substring(1) + "x", 1, 399);
    bad(BLANKS.substring(1) + ";", 1, 399);
    bad(BLANKS.substring(4) + "rope", 1, 400);
    bad("a".repeat(400), 1, 0);
    bad(";".repeat(400), 1, 0);
    bad("7".repeat(400), 1, 0);
    bad("fast " + "7".repeat(395), 2, 5);
  }

  // MINE: LINE*.
  private static void noLines() {
    for (String text : new String[] {"", " ", "\n", " \n \n", BLANKS}) C.due("no LINES", good(text).count(2), 0);
  }

  // NUMBERS (1 to 3 digits); 2: a NUMBER of 4 digits or more.
  private static void numbersOf1To3Digits() {
    C.due("one digit", good("slope 8;").count(0), 8);
    C.due("two", good("slope 08;").count(0), 8);
    C.due("three", good("slope 008;").count(0), 8);
    bad("slope 0008;", 2, 6);
    bad("slope 00008;", 2, 6);
    C.due("three", good("slope 8 siding 003;").count(1), 3);
    bad("slope 8 siding 0003;", 2, 15);
    good("needs 099;fast 001;rope men 001 000 glass 030 slips 000;");
    bad("needs 0099;", 2, 6);
    bad("fast 0001;", 2, 5);
    bad("rope men 0001 0 glass 30;", 2, 9);
    bad("rope men 1 0000 glass 30;", 2, 11);
    bad("rope men 1 0 glass 0030;", 2, 19);
    bad("rope men 1 0 glass 30 slips 0000;", 2, 28);
  }

  /** Numbers that are as told if only their lower 32 or 64 bits are looked at. */
  private static void numbersThatWrapAround() {
    for (int bits : new int[] {8, 16, 32, 64}) {
      java.math.BigInteger round = java.math.BigInteger.TWO.pow(bits);
      String none = round.toString();
      String one = round.add(java.math.BigInteger.ONE).toString();
      bad("slope " + round.add(java.math.BigInteger.valueOf(8)) + ";", 2, 6);
      bad("slope 8 siding " + one + ";", 2, 15);
      bad("needs " + one + ";", 2, 6);
      bad("fast " + one + ";", 2, 5);
      bad("rope men " + one + " 0 glass 1;", 2, 9);
      bad("rope men 1 " + none + " glass 1;", 2, 11);
      bad("rope men 1 0 glass " + one + ";", 2, 19);
      bad("rope men 1 0 glass 1 slips " + none + ";", 2, 27);
    }
  }

  // Blanks (32, 10); a .. z; 1: a TOKEN that can't stand there, or is none.
  private static void everySignAheadOfALine() {
    for (int b = 0; b < 256; b++) {
      String text = (char) b + "fast 7;";
      if (b == 32 || b == 10) C.due("blank " + b, good(text).count(4), 7);
      else bad(text, 1, 0);
      String late = "fast 7;" + (char) b;
      if (b == 32 || b == 10) C.due("blank " + b, good(late).count(4), 7);
      else bad(late, 1, 7);
    }
  }

  private static void everySignBehindAWord() {
    for (int b = 0; b < 256; b++) {
      String text = "fast" + (char) b + "7;";
      if (b == 32 || b == 10) C.due("blank " + b, good(text).count(4), 7);
      else if (b >= 'a' && b <= 'z') bad(text, 1, 0);
      else if (b >= '0' && b <= '9') C.due(text, good(text).count(4), 10 * (b - '0') + 7);
      else bad(text, 1, 4);
    }
  }

  private static void everySignBehindANumber() {
    for (int b = 0; b < 256; b++) {
      String text = "fast 7" + (char) b + ";";
      if (b == 32 || b == 10) C.due("blank " + b, good(text).count(4), 7);
      else if (b >= '0' && b <= '9') C.due(text, good(text).count(4), 70 + b - '0');
      else if (b == ';') bad(text, 1, 7);
      else bad(text, 1, 6);
    }
  }

  // Words (a .. z, the longest row).
  private static void wordsAreTheLongestRow() {
    bad("fasts 7;", 1, 0);
    bad("fas 7;", 1, 0);
    bad("fa st 7;", 1, 0);
    bad("slope 8 siding1siding 1;", 1, 15);
    bad("ropemen 9 4 glass 2;", 1, 0);
    bad("rope men 9 4 glass 2 slips 1turnturn;", 1, 28);
    bad("rope men 9 4 glass 2 alwaysclear;", 1, 21);
    good("rope men 9 4glass2slips1turn;");
    good("slope8siding1;needs1;fast1;rope\nmen\n9\n4\nglass\n2\n;\n");
    // a number's row ends where its digits do, and blanks part two numbers
    bad("rope men 94 glass 2;", 1, 12);
    good("rope men 9\n4 glass 2;");
  }

  // The text's length where it ends too soon; a word that is cut off is another word.
  private static void textThatEndsTooSoon() {
    for (String line : new String[] {"slope 8 siding 2;", "slope 8;", "needs 7 ;", "fast 7;",
        "rope men 9 4 glass 2 slips 1 turn;", "rope water 9 4 glass 2 clear ;", "rope plain 9 4 glass 2;"}) {
      int wordFrom = 0;
      for (int n = 1; n < line.length(); n++) {
        boolean within = isLetter(line, n - 1) && isLetter(line, n);
        if (!isLetter(line, n - 1)) wordFrom = n;
        bad(line.substring(0, n), 1, within ? wordFrom : n);
      }
      good(line);
    }
  }

  private static boolean isLetter(String text, int at) { return text.charAt(at) >= 'a' && text.charAt(at) <= 'z'; }

  // 'slope' is the first LINE, if it is told; 3: 'slope' that isn't the first LINE.
  private static void slopeIsTheFirstLine() {
    good(" \n slope 8;");
    bad("needs 1;slope 8;", 3, 8);
    bad("fast 1;\nslope 8;", 3, 8);
    bad(ROPE + "slope 8;", 3, 21);
    bad("slope 8;slope 8;", 3, 8);
    bad("slope 8;needs 1;slope", 3, 16);
    bad("needs 1;slope 7 x", 3, 8);
    bad("needs 1;slopes", 1, 8);
  }

  // 4: a second 'needs', 'fast'.
  private static void needsAndFastOnce() {
    bad("needs 1;needs 1;", 4, 8);
    bad("fast 1;fast 1;", 4, 7);
    bad("needs 1;fast 1;needs", 4, 15);
    bad("fast 1;needs 1;" + ROPE + "fast x", 4, 36);
    good("needs 1;fast 1;");
    good("fast 1;" + ROPE + "needs 1;");
  }

  // FAULTS, the first along the text.
  private static void firstFaultAlongTheText() {
    bad("slope 7;slope 8;", 2, 6);
    bad("slope 8 x;slope 8;", 1, 8);
    bad("needs 1;slope 8;needs 1;", 3, 8);
    bad("needs 1;needs 100;slope 8;x", 4, 8);
    bad("needs 100;needs 1;", 2, 6);
    bad("needs 1;\tneeds 1;", 1, 8);
    bad("slope 5 siding 9;", 2, 6);
    bad("slope 4 siding 9 9;", 2, 15);
    bad("rope men 0 99 glass 31 slips 4;", 2, 9);
    bad("rope men 1 99 glass 31 slips 4;", 2, 11);
    bad("rope men 1 98 glass 31 slips 4;", 2, 20);
    bad("rope men 1 98 glass 30 slips 4;", 2, 29);
    bad("rope men 1 98 glass 30 slips 3 slips 3;", 1, 31);
  }

  // Of one TOKEN the least: what can't stand there is 1, whatever else it would be.
  private static void leastFaultOfOneToken() {
    bad("1234", 1, 0);
    bad("fast 1;1234", 1, 7);
    bad("slope 8 1234;", 1, 8);
    bad("rope 1234;", 1, 5);
    bad("rope men 9 4 1234;", 1, 13);
    bad("rope men 9 4 glass 2 1234;", 1, 21);
    bad("needs 1;needs 1", 4, 8);
    bad("needs slope 8;", 1, 6);
    bad("needs 1 slope 8;", 1, 8);
    bad("needs 1 needs 1;", 1, 8);
    bad("fast fast 1;", 1, 5);
    bad("slope slope 8;", 1, 6);
    bad("siding 1;", 1, 0);
    bad("glass 1;", 1, 0);
  }

  // feed: how many it has; NONE, and none come, if it would have more than 400.
  private static void tapeThatIsFull() {
    SandCars x = new SandCars();
    String text = BLANKS.substring(ROPE.length()) + ROPE;
    int[][] rows = Checks.rows(text);
    for (int i = 0; i < 20; i++) {
      C.due("bytes ahead", x.count(11), 20 * i);
      C.due("feed", x.feed(rows[i][0], rows[i][1], rows[i][2], rows[i][3], rows[i][4]), 20 * i + 20);
    }
    for (int i = 0; i < 3; i++) C.due("feed beyond 400", x.feed(-1, -1, -1, -1, -1), SandCars.NONE);
    C.due("none came", x.count(11), 400);
    C.due("the bytes stay", x.mine(400), 0);
    C.due("a rope", x.count(2), 1);
    C.due("feed again", x.feed(FOUR_BLANKS, 0, 0, 0, 0), 20);
    for (int what = 12; what <= 14; what++) C.due("feed has no STATUS", x.count(what), 0);
  }

  // Twenty bytes come behind the tape, of each number the highest first.
  private static void highestByteFirst() {
    for (int at = 0; at < 40; at++) {
      for (int b : new int[] {0, 127, 128, 255}) {
        int[] with = new int[10];
        for (int i = 0; i < 10; i++) with[i] = FOUR_BLANKS;
        int shift = 24 - 8 * (at % 4);
        with[at / 4] = with[at / 4] & ~(255 << shift) | b << shift;
        SandCars x = new SandCars();
        x.feed(with[0], with[1], with[2], with[3], with[4]);
        x.feed(with[5], with[6], with[7], with[8], with[9]);
        C.due("byte " + b + " at " + at, x.mine(40), 1);
        C.due("its place", x.fault(), at);
      }
    }
  }

  // The tape's first n bytes (it is empty then).
  private static void tapeIsEmptyBehindMine() {
    for (int n : new int[] {0, 1, 7, 20}) {
      SandCars x = new SandCars();
      Checks.put(x, "fast 7;             ");
      C.due("mine(" + n + ")", x.mine(n), n == 1 ? 1 : 0);
      C.due("the tape behind mine(" + n + ")", x.count(11), 0);
      C.throwsIllegal("mine(1) of it", () -> x.mine(1));
      C.due("FAST", x.count(4), n < 7 ? 99 : 7);
      C.due("the tape begins anew", x.feed(FOUR_BLANKS, FOUR_BLANKS, FOUR_BLANKS, FOUR_BLANKS, FOUR_BLANKS), 20);
      C.due("with blanks alone", x.mine(20), 0);
    }
    SandCars x = new SandCars();
    C.due("mine(0) of an empty tape", x.mine(0), 0);
  }

  // IllegalArgumentException: the tape has not so many, n below 0 (nothing changes).
  private static void moreThanTheTapeHas() {
    for (int bytes : new int[] {0, 20, 400}) {
      SandCars x = C.made("slope 4 siding 1;rope plain 9 4 glass 2 slips 1;");
      x.on(7);
      x.most(5);
      x.time(0, 6);
      x.image();
      Checks.mine(x, " x");
      for (int i = 0; i < bytes / 20; i++) x.feed(FOUR_BLANKS, FOUR_BLANKS, FOUR_BLANKS, FOUR_BLANKS, FOUR_BLANKS);
      int[] before = Checks.look(x);
      for (int n : new int[] {bytes + 1, bytes + 20, 401, 1000, -1, -20, Integer.MIN_VALUE, Integer.MAX_VALUE})
        C.throwsIllegal("mine(" + n + ") of " + bytes, () -> x.mine(n));
      C.same("nothing changes", before, Checks.look(x));
      C.due("the plan stays", x.plan(5), 0);
      C.due("the image stays", x.restore(), true);
      C.due("all it has", x.mine(bytes), 0);
    }
  }

  // 0, or the FAULT (all stays, but STATUS).
  private static void allStaysWithAFault() {
    String rope = "slope 4 siding 1;needs 2;fast 7;rope plain 9 4 glass 2 slips 1;";
    String[] wrong = {"x", "slope 5;", "needs 1;slope 4;", "fast 1;fast 1;", ROPE + ROPE + ROPE + "rope", "slope 20 siding 3;needs 9"};
    int[] codes = {1, 2, 3, 4, 2, 1};
    SandCars x = C.made(rope);
    x.slip(0, 1);
    x.on(7);
    x.most(5);
    x.time(0, 6);
    x.image();
    x.on(1);
    for (int i = 0; i < wrong.length; i++) {
      int[] before = Checks.look(x);
      C.due("mine of " + wrong[i], Checks.mine(x, wrong[i]), codes[i]);
      int[] behind = Checks.look(x);
      C.due("STATUS 0 grows", behind[12], before[12] + 1);
      behind[12] = before[12];
      behind[Checks.FAULT] = before[Checks.FAULT];
      C.same("all stays with " + wrong[i], before, behind);
    }
    C.due("the plan stays", x.plan(5), 0);
    C.due("SAFE as before", x.safe(2), 9);
    C.due("FITTING as before", x.fitting(), 4);
    C.due("what can be UNDONE stays", x.undo(99), 8);
    C.due("the image stays", x.restore(), true);
    C.due("as in it", x.count(5), 7);
  }

  // All anew, second 0; TIMES, THE PLAN, the image are gone.
  private static void allIsAnewWithoutOne() {
    for (String next : new String[] {"", ROPE, "slope 4;rope plain 9 4 glass 2;"}) {
      SandCars x = C.made("slope 4;needs 2;fast 7;rope plain 9 4 glass 2 slips 1;" + ROPE);
      x.slip(0, 1);
      x.most(5);
      x.time(0, 6);
      x.on(9);
      x.image();
      C.due("HARM ahead", x.count(7), 1);
      C.due("mine", Checks.mine(x, next), 0);
      C.same("as in a new object: " + next, Checks.look(C.made(next)), Checks.look(x));
      C.throwsNoSuch("THE PLAN is gone", () -> x.plan(0));
      C.due("the image is gone", x.restore(), false);
      C.due("nothing can be UNDONE", x.undo(1), 0);
      C.due("no TIMES", x.fitting(), 1);
      C.due("seconds go by again", x.on(1), 1);
    }
  }

  // All anew: also what the text leaves out, what was searched for, and the ORE.
  private static void nothingOfEarlierMines() {
    String much = "slope 20 siding 3;needs 9;fast 9;rope plain 30 1 glass 30 slips 3 turn;rope men 30 1 glass 29 slips 2 clear;"
        + "rope water 30 1 glass 28 slips 1 half;";
    String spent = "slope 6 siding 2;rope runaway 9 8 glass 29 slips 3 clear;rope plain 9 8 glass 19 slips 3 clear;"
        + "rope plain 9 8 glass 5 slips 3 clear;";
    String[] texts = {much, ROPE, much, "", spent, "slope 4 siding 1;" + ROPE, spent, much, "slope 6;" + ROPE, ROPE + ROPE, ROPE};
    SandCars x = new SandCars();
    for (String text : texts) {
      C.due("mine of " + text, Checks.mine(x, text), 0);
      SandCars y = C.made(text);
      C.same("as in a new object: " + text, Checks.look(y), Checks.look(x));
      for (int what = 0; what < 3; what++) C.due("SAFE of " + text, x.safe(what), y.safe(what));
      C.due("THE MOST ORE of " + text, x.most(4), y.most(4));
      C.due("on of " + text, x.on(100), y.on(100));
      C.same("on in " + text, Checks.look(y), Checks.look(x));
      if (x.count(2) > 0) C.due("a TIME", x.time(0, 9), 1);
      x.image();
    }
  }

  // fault: the place of the latest mine()'s FAULT; NONE without.
  private static void faultOfTheLatestMine() {
    SandCars x = new SandCars();
    C.due("without a mine()", x.fault(), SandCars.NONE);
    Checks.mine(x, "fast");
    C.due("at the text's end", x.fault(), 4);
    Checks.mine(x, "x");
    C.due("place 0", x.fault(), 0);
    C.throwsIllegal("mine(-1)", () -> x.mine(-1));
    C.due("behind an exception", x.fault(), 0);
    Checks.mine(x, "fast" + BLANKS.substring(4));
    C.due("place 400", x.fault(), 400);
    Checks.mine(x, "fast 7;");
    C.due("without a FAULT", x.fault(), SandCars.NONE);
  }
}
