/** The boundary cases of "3. Picks and ways", sentence by sentence. */
public final class PickEdgesTest {
  /** The DRAWS of the picks, one after another, from the first one on. */
  private static final int[] DRAWS = {3, 2, 5, 4, 7, 6, 1, 0};

  public static void main(String[] args) {
    armAtFirst();
    wayIsTheGreaterDistance();
    goingDown();
    otherTool();
    slow();
    clockCountsAllPicks();
    hinderedOnlyGoesThere();
    everyHindranceGoesThere();
    draws();
    gripIsWholeOfMargin();
    gripAtHalves();
    gripBesideHalves();
    gripIsSevenAtMost();
    slips();
    slipLeavesTheHeapAsItIs();
    taken();
    allThatAreTangledAndFreeComeOut();
    freeAsItIsOut();
    foundOnceAsItAloneIsOut();
    comeOutFirst();
    oneByOneByNumbers();
    atTheCornerOfTheTakenOne();
    cornersThatJustFit();
    theirCornerThen();
    laterThanAllOthers();
    tanglesAreGone();
    nothingMoreUntilPutOrThrown();
    Check.end("PickEdgesTest");
  }

  private static void armAtFirst() {
    Runs.holds("The arm is at the corner (0, 0) at first, with the tool 0.", """
        many({6|7|8}): 0
        kind(1, 1, 1, 1, 0, 0): 0
        fall(0, 0, 0): 0; fall(0, 1, 0): 1; fall(0, 0, 1): 2
        many({6|7|8}): 0
        ticks(0, 0): 2.75; ticks(0, {1|2}): 10.75
        ticks({1|2}, 0): 4.25
        """);
  }

  private static void wayIsTheGreaterDistance() {
    Runs.holds("its WAY is the greater one of the distances in x and in y from where the arm is to"
        + " the THING's corner", """
        kind(1, 1, 4, 1, 0, 0): 0; kind(3, 2, 4, 1, 0, 0): 1
        fall(0, 0, 0): 0; fall(0, 5, 0): 1; fall(0, 0, 5): 2; fall(0, 5, 5): 3
        fall(1, 3, 2): 4; fall(1, 2, 3): 5
        ofThing(5, 4): 8
        ticks(0, 0): 2.0; ticks({1|2|3}, 0): 9.5
        ticks(4, 0): 6.5; ticks(5, 0): 5.5
        person(true, false): false
        pick(5, 0): 5
        many(7): 2; many(8): 3
        ticks(5, 0): 1.0; ticks(4, 0): 3.5; ticks({0|1}, 0): 6.5; ticks(2, 0): 5.0; ticks(3, 0): 6.5
        pick(3, 0): 5
        ticks(3, 0): 2.0; ticks({0|1|2}, 0): 9.5; ticks(4, 0): 6.5; ticks(5, 0): 5.5
        pick(2, 0): 5
        many(7): 0; many(8): 5
        ticks(2, 0): 2.0; ticks({0|1|3}, 0): 9.5; ticks(4, 0): 6.5; ticks(5, 0): 4.0
        """);
  }

  private static void goingDown() {
    Runs.holds("Math.max(0.0, 12.0 - TOP) * 0.25 (going down)", """
        kind(1, 1, 4, 1, 0, 0): 0; kind(1, 1, 3, 1, 0, 0): 1; kind(1, 1, 1, 1, 0, 0): 2
        fall(2, 0, 0): 0
        ticks(0, 0): 2.75
        fall(0, 0, 0): 1
        ofThing(1, 4): 5; ticks(1, 0): 1.75
        fall(0, 0, 0): 2
        ofThing(2, 4): 9; ticks(2, 0): 0.75
        fall(2, 0, 0): 3; fall(2, 0, 0): 4
        ofThing(4, 4): 11; ticks(4, 0): 0.25
        fall(2, 0, 0): 5
        ofThing(5, 4): 12; ticks(5, 0): 0.0
        fall(2, 0, 0): 6
        ofThing(6, 4): 13; ticks(6, 0): 0.0
        fall(0, 0, 0): 7; fall(0, 0, 0): 8
        ofThing(8, 4): 21; ticks(8, 0): 0.0; ticks(8, 1): 8.0
        """);
    Runs.holds("Math.max(0.0, 12.0 - TOP) * 0.25 (the greatest TOP that can be)", """
        kind(1, 1, 4, 1, 0, 0): 0
        """
        + Runs.times(12, "fall(0, 5, 1)") + """
        ofThing(11, 4): 48; ticks(11, 0): 7.5
        pick(11, 0): 0
        clock(): 7.5
        """);
  }

  private static void otherTool() {
    Runs.holds("8.0 more, if the tool is another one than the last one", """
        kind(1, 1, 4, 1, 2, 0): 0
        fall(0, 2, 2): 0
        ticks(0, 0): 5.0; ticks(0, 1): 13.0; ticks(0, 2): 13.0
        pick(0, 0): 3
        clock(): 5.0
        pick(0, 0): 3
        clock(): 7.0
        pick(0, 1): 0
        clock(): 17.0
        back(): 0
        ticks(0, 0): 10.0; ticks(0, 1): 2.0; ticks(0, 2): 10.0
        pick(0, 2): 0
        clock(): 27.0
        back(): 0
        ticks(0, 0): 10.0; ticks(0, 1): 10.0; ticks(0, 2): 2.0
        """);
  }

  private static void slow() {
    Runs.holds("times 2.0, if the arm is SLOW (told by hand; at first it is not)", """
        kind(1, 1, 1, 1, 0, 0): 0
        fall(0, 5, 4): 0
        ticks(0, 0): 10.25; ticks(0, 1): 18.25
        person(true, false): false
        ticks(0, 0): 10.25
        person(true, true): true
        ticks(0, 0): 20.5; ticks(0, 1): 36.5
        pick(0, 1): 5
        clock(): 36.5
        person(false, true): true
        ticks(0, 1): 5.5; ticks(0, 0): 21.5
        pick(0, 1): 0
        clock(): 42.0
        ticks(0, 0): -1.0
        back(): 0
        person(false, false): false
        ticks(0, 1): 2.75; ticks(0, 0): 10.75
        """);
  }

  private static void clockCountsAllPicks() {
    Runs.holds("They are added to CLOCK (double; 0.0 at first), hindered or not", """
        clock(): 0.0
        kind(1, 1, 1, 6, 0, 0): 0
        fall(0, 1, 0): 0; fall(0, 3, 3): 1
        clock(): 0.0
        pick(0, 2): 3
        clock(): 12.25
        pick(0, 0): 0
        clock(): 23.0
        back(): 0
        clock(): 23.0
        pick(0, 0): 0
        back(): 0
        clock(): 25.75
        pick(1, 0): -2
        clock(): 33.0
        pick(5, 0): !Index; pick(0, 3): !Argument
        clock(): 33.0
        pick(1, 0): 0
        clock(): 35.75
        pick({0|1}, 0): !State
        clock(): 35.75
        """);
  }

  private static void hinderedOnlyGoesThere() {
    Runs.holds("(as hindered it only goes there: the tool is the new one, the arm is at that"
        + " corner)", """
        kind(2, 2, 1, 1, 1, 0): 0
        fall(0, 4, 3): 0
        tangle(0, 0): !Argument
        fall(0, 1, 1): 1
        tangle(0, 1): 1
        pick(0, 2): 3
        many(5): -1; many(6): 2; many(7): 4; many(8): 3; many(9): 0; many(10): 0; many(11): 1
        ofThing(0, 5): 0; ofThing(0, 8): 2; ofThing(1, 8): 1; ofThing(0, 9): 0
        ofThing(0, 1): 4; ofThing(0, 2): 3; many(2): 2
        pick(1, 0): 3
        many(6): 0; many(7): 1; many(8): 1; many(9): 0; many(11): 2
        """);
  }

  private static void everyHindranceGoesThere() {
    Runs.holds("Returns 0 if it was TAKEN, -2 if it SLIPPED, or what hindered (1 to 5)", """
        kind(1, 1, 1, 6, 0, 0): 0; kind(1, 1, 4, 7, 0, 0): 1
        fall(0, 1, 0): 0; fall(0, 3, 3): 1; fall(0, 3, 3): 2
        fall(1, 2, 0): 3; fall(1, 2, 0): 4
        pick(1, 0): 1
        many(7): 3; many(8): 3; many(11): 1
        pick(0, 0): 2
        many(7): 1; many(8): 0; many(11): 2
        pick(2, 2): 3
        many(6): 2; many(7): 3; many(11): 3
        pick(4, 0): 4
        many(6): 0; many(7): 2; many(11): 4
        person(true, false): false
        pick(2, 0): 5
        many(7): 3; many(11): 5; many(9): 0; many(10): 0
        person(false, false): true
        pick(2, 0): 0
        many(5): 2; many(9): 3; many(11): 5
        back(): 1; pick(2, 0): 0; back(): 1
        pick(2, 0): -2
        many(5): -1; many(9): 5; many(10): 1; many(11): 5
        """);
  }

  private static void draws() {
    StringBuilder run = new StringBuilder("many(9): 0\nkind(1, 1, 1, 1, 0, 0); fall(0, 0, 0)\n");
    for (int i = 0; i < 9; i++) {
      run.append("pick(0, 2): 3; many(9): " + (i == 0 ? 0 : DRAWS[i - 1]) + "\n");
      run.append("pick(0, 0): 0; many(9): " + DRAWS[i % 8] + "\nback(): 0\n");
    }
    Runs.holds("the DRAW becomes 5 times DRAW, and 3, modulo 8 (0 at first)", run.toString());
  }

  /** A pick, with the tool that is told, for a THING of that KIND as the DRAW becomes that one. */
  private static void atDraw(int draw, String kind, int tool, int due) {
    StringBuilder run = new StringBuilder("kind(1, 1, 1, 1, 2, 0): 0; kind(" + kind + "): 1\n");
    run.append("fall(0, 0, 1): 0; fall(1, 3, 3): 1\n");
    for (int i = 0; DRAWS[i] != draw; i++) {
      run.append("pick(0, 2): 0; back(): 0\n");
    }
    run.append("pick(1, " + tool + "): " + due + "; many(9): " + draw + "\n");
    run.append("many(5): " + (due == 0 ? 1 : -1) + "; many(10): " + (due == 0 ? 0 : 1) + "\n");
    Runs.holds("GRIP is made by Math.rint(MARGIN * 4.0), at most 7.0, made whole; if the new DRAW"
        + " is above GRIP, it SLIPS", run.toString());
  }

  // FORCE / LIFT * 4 is told behind each.
  private static void gripIsWholeOfMargin() {
    String four = "1, 1, 1, 22, 1, 0"; // 22 / 22: 4
    atDraw(3, four, 1, 0);
    atDraw(4, four, 1, 0);
    atDraw(5, four, 1, -2);
    atDraw(7, four, 1, -2);
    atDraw(0, four, 1, 0);
    String five = "1, 1, 3, 24, 1, 0"; // 30 / 24: 5
    atDraw(5, five, 1, 0);
    atDraw(6, five, 1, -2);
    String six = "1, 1, 4, 24, 2, 0"; // 36 / 24: 6
    atDraw(6, six, 2, 0);
    atDraw(7, six, 2, -2);
  }

  private static void gripAtHalves() {
    String fourAndHalf = "1, 1, 1, 8, 2, 0"; // 9 / 8: 4.5, so 4
    atDraw(4, fourAndHalf, 2, 0);
    atDraw(5, fourAndHalf, 2, -2);
    String fiveAndHalf = "1, 1, 1, 16, 1, 0"; // 22 / 16: 5.5, so 6
    atDraw(6, fiveAndHalf, 1, 0);
    atDraw(7, fiveAndHalf, 1, -2);
    String sixAndHalf = "1, 1, 2, 16, 1, 0"; // 26 / 16: 6.5, so 6
    atDraw(6, sixAndHalf, 1, 0);
    atDraw(7, sixAndHalf, 1, -2);
  }

  private static void gripBesideHalves() {
    String aboveFour = "1, 1, 2, 23, 1, 0"; // 26 / 23: 4.52, so 5
    atDraw(5, aboveFour, 1, 0);
    atDraw(6, aboveFour, 1, -2);
    String belowFour = "1, 1, 4, 31, 1, 0"; // 34 / 31: 4.39, so 4
    atDraw(4, belowFour, 1, 0);
    atDraw(5, belowFour, 1, -2);
    String belowFive = "1, 1, 4, 25, 1, 0"; // 34 / 25: 5.44, so 5
    atDraw(5, belowFive, 1, 0);
    atDraw(6, belowFive, 1, -2);
    String aboveSix = "1, 1, 4, 22, 2, 0"; // 36 / 22: 6.55, so 7
    atDraw(7, aboveSix, 2, 0);
    String belowSix = "1, 1, 4, 23, 2, 0"; // 36 / 23: 6.26, so 6
    atDraw(6, belowSix, 2, 0);
    atDraw(7, belowSix, 2, -2);
  }

  private static void gripIsSevenAtMost() {
    atDraw(7, "1, 1, 3, 16, 1, 0", 1, 0); // 30 / 16: 7.5, so 8
    atDraw(7, "3, 3, 1, 1, 0, 0", 0, 0); // 58.5 / 1: 234
    atDraw(7, "1, 1, 4, 1, 2, 0", 2, 0); // 36 / 1: 144
  }

  private static void slips() {
    Runs.holds("it SLIPS: it stays where it was, and is counted; its TANGLES are gone", """
        kind(1, 1, 1, 10, 1, 0): 0; kind(1, 1, 1, 1, 2, 0): 1
        fall(0, 2, 2): 0; fall(0, 4, 4): 1; fall(1, 0, 1): 2
        pick(2, 2): 0; back(): 0; pick(2, 2): 0; back(): 0
        tangle(0, 1): 1; tangle(1, 2): 2
        many(10): 0; ofThing(0, 9): 0
        clock(): 15.0
        pick(0, 1): -2
        many(5): -1; many(6): 1; many(7): 2; many(8): 2; many(9): 5; many(10): 1; many(11): 0
        ofThing(0, 9): 1; ofThing({1|2}, 9): 0
        ofThing(0, 5): 0; ofThing(0, {1|2}): 2; ofThing(0, 3): 0
        ofThing(0, 8): 0; ofThing(1, 8): 4; ofThing(2, 8): 2
        ofThing(1, {1|2}): 4; ofThing(2, 2): 1
        clock(): 28.75
        pick(0, 1): 0
        many(9): 4; many(10): 1; ofThing(0, 9): 1
        """);
  }

  private static void slipLeavesTheHeapAsItIs() {
    Runs.holds("it stays where it was (and so do those that were TANGLED with it)", """
        kind(1, 1, 1, 6, 0, 0): 0; kind(2, 1, 1, 7, 0, 0): 1; kind(1, 1, 1, 1, 0, 0): 2
        fall(2, 0, 0): 0; fall(0, 3, 3): 1; fall(1, 2, 3): 2; fall(0, 0, 5): 3
        pick(0, 0): 0; back(): 0; pick(0, 0): 0; back(): 0
        tangle(2, 3): 1
        ofThing(2, 3): 1
        pick(2, 0): -2
        ofThing(2, 1): 2; ofThing(2, 2): 3; ofThing(2, 3): 1; ofThing(1, 6): 4
        ofThing(3, 1): 0; ofThing(3, 2): 5
        pick(2, 0): 0
        back(): 1
        ofThing(2, 1): 2; ofThing(2, 2): 3; ofThing(1, 6): 4
        ofThing(2, 9): 1; many(10): 1
        """);
  }

  private static void taken() {
    Runs.holds("Otherwise it is TAKEN, out of the BIN. ... The arm HAS it then", """
        kind(2, 1, 1, 1, 0, 0): 0
        fall(0, 2, 3): 0; fall(0, 2, 3): 1
        pick(1, 0): 0
        many(2): 1; many(1): 2; many(5): 1; many(12): 1
        many(7): 2; many(8): 3
        ofThing(1, 5): 1; ofThing(1, 7): 0; ofKind(0, 6): 1
        ofThing(1, 1): 2; ofThing(1, 2): 3; ofThing(1, 3): 1; ofThing(1, 4): 2
        seen({2|3}, 3): 0
        ofThing(0, 6): 0
        """);
  }

  private static void allThatAreTangledAndFreeComeOut() {
    Runs.holds("All that are TANGLED with it, and FREE as it is out, come out first; then they FALL"
        + " back", """
        kind(1, 1, 1, 1, 0, 0): 0
        fall(0, 5, 5): 0; fall(0, 0, 0): 1; fall(0, 2, 0): 2; fall(0, 2, 0): 3; fall(0, 4, 0): 4
        tangle(0, 1): 1; tangle(0, 2): 2; tangle(1, 4): 2
        pick(0, 0): 0
        ofThing(1, {1|2}): 5
        ofThing(2, 1): 2; ofThing(2, 2): 0
        ofThing(3, 1): 2; ofThing(3, 2): 0
        ofThing(4, 1): 4; ofThing(4, 2): 0
        ofThing(0, {1|2}): 5; ofThing(0, 5): 1
        many(2): 4
        """);
  }

  private static void freeAsItIsOut() {
    Runs.holds("FREE as it is out", """
        kind(1, 1, 1, 1, 0, 0): 0; kind(2, 1, 1, 1, 0, 0): 1
        fall(1, 2, 2): 0; fall(1, 1, 4): 1
        fall(0, 1, 4): 2
        fall(0, 3, 2): 3
        tangle(3, 0): 1; tangle(3, 1): 2
        hinders(0, 0): 1
        pick(3, 0): 0
        ofThing(0, 1): 3; ofThing(0, 2): 2; ofThing(0, 3): 0
        ofThing(1, 1): 1; ofThing(1, 2): 4
        seen({3|4}, 2): 0; seen(2, 2): -1
        """);
  }

  private static void foundOnceAsItAloneIsOut() {
    Runs.holds("(found once, as it alone is out)", """
        kind(1, 1, 1, 1, 0, 0): 0
        fall(0, 5, 5): 0; fall(0, 1, 1): 1; fall(0, 1, 1): 2; fall(0, 3, 3): 3; fall(0, 3, 3): 4
        tangle(0, 1): 1; tangle(0, 2): 2; tangle(4, 3): 1; tangle(4, 0): 2; tangle(3, 0): 2
        pick(0, 0): 0
        ofThing(1, {1|2}): 1; ofThing(1, 6): 0
        ofThing(2, {1|2}): 5; ofThing(2, 3): 0
        ofThing(3, {1|2}): 3; ofThing(3, 6): 0
        ofThing(4, {1|2}): 5; ofThing(4, 3): 1
        """);
  }

  private static void comeOutFirst() {
    Runs.holds("come out first; then they FALL back", """
        kind(1, 1, 1, 1, 0, 0): 0
        fall(0, 0, 0): 0; fall(0, 3, 3): 1; fall(0, 3, 3): 2
        tangle(2, 0): 1; tangle(2, 1): 2
        pick(2, 0): 0
        ofThing(0, {1|2}): 3; ofThing(0, 3): 0
        ofThing(1, {1|2}): 3; ofThing(1, 3): 1
        ofThing(0, 6): 2; ofThing(1, 6): 0
        """);
  }

  private static void oneByOneByNumbers() {
    Runs.holds("one by one by numbers", """
        kind(1, 1, 1, 1, 0, 0): 0
        fall(0, 0, 0): 0; fall(0, 2, 0): 1; fall(0, 4, 0): 2; fall(0, 0, 2): 3; fall(0, 4, 4): 4
        fall(0, 2, 4): 5
        tangle(4, 5): 1; tangle(4, 3): 2; tangle(4, 0): 3; tangle(2, 4): 1; tangle(4, 1): 5
        pick(4, 0): 0
        ofThing(0, 3): 0; ofThing(1, 3): 1; ofThing(2, 3): 2; ofThing(3, 3): 3; ofThing(5, 3): 4
        ofThing(0, 6): 46; ofThing(5, 6): 0; seen(4, 4): 5
        back(): 5
        """);
  }

  private static void atTheCornerOfTheTakenOne() {
    Runs.holds("at the corner of the one that was taken, if all their CELLS would be in the BIN so,"
        + " otherwise at their own", """
        kind(1, 1, 1, 1, 0, 0): 0; kind(2, 1, 1, 1, 0, 0): 1; kind(1, 2, 1, 1, 0, 0): 2
        kind(2, 2, 1, 1, 0, 0): 3
        fall(0, 5, 4): 0
        fall(1, 0, 0): 1; fall(2, 3, 0): 2; fall(3, 0, 3): 3; fall(0, 3, 3): 4
        tangle(0, 1): 1; tangle(0, 2): 2; tangle(0, 3): 3; tangle(0, 4): 4
        pick(0, 0): 0
        ofThing(1, {1|2}): 0
        ofThing(2, 1): 5; ofThing(2, 2): 4; ofThing(2, 3): 0
        ofThing(3, 1): 0; ofThing(3, 2): 3
        ofThing(4, 1): 5; ofThing(4, 2): 4; ofThing(4, 3): 1
        """);
  }

  private static void cornersThatJustFit() {
    for (int size = 0; size < 9; size++) {
      int width = 1 + size % 3;
      int depth = 1 + size / 3;
      for (int corner = 0; corner < 9; corner++) {
        int x = 3 + corner % 3;
        int y = 3 + corner / 3;
        boolean fits = x + width <= 6 && y + depth <= 6;
        Runs.holds("if all their CELLS would be in the BIN so, otherwise at their own",
            "kind(1, 1, 1, 1, 0, 0): 0; kind(" + width + ", " + depth + ", 1, 1, 0, 0): 1\n"
            + "fall(1, 0, 0): 0; fall(0, " + x + ", " + y + "): 1; tangle(0, 1): 1\n"
            + "pick(1, 0): 0\n"
            + "ofThing(0, 1): " + (fits ? x : 0) + "; ofThing(0, 2): " + (fits ? y : 0) + "\n"
            + "ofThing(0, 3): 0; seen(5, 5): " + (x + width == 6 && y + depth == 6 ? 0 : -1) + "\n");
      }
    }
  }

  private static void theirCornerThen() {
    Runs.holds("(that is their corner then)", """
        kind(2, 1, 1, 1, 0, 9): 0; kind(1, 1, 1, 1, 0, 9): 1
        box(90): 0
        fall(0, 0, 0): 0; fall(1, 3, 3): 1; fall(1, 5, 5): 2
        tangle(1, 0): 1
        pick(1, 0): 0
        ofThing(0, {1|2}): 3; ticks(0, 0): 2.75
        put(0): 1
        tangle(2, 0): 1
        pick(2, 0): 0
        ofThing(0, {1|2}): 3
        back(): 0
        pick(0, 0): 0
        many({7|8}): 3
        fall(1, 4, 3): 3
        back(): 1
        ofThing(0, {1|2}): 3
        """);
  }

  private static void laterThanAllOthers() {
    Runs.holds("they fell later than all others", """
        kind(1, 1, 1, 1, 0, 0): 0; kind(2, 1, 1, 1, 0, 0): 1
        fall(0, 0, 0): 0; fall(1, 4, 5): 1; fall(0, 5, 5): 2
        tangle(2, 0): 1; tangle(2, 1): 2
        pick(2, 0): 0
        ofThing(0, {1|2}): 5; ofThing(0, 3): 0
        ofThing(1, 1): 4; ofThing(1, 2): 5; ofThing(1, 3): 1
        ofThing(0, 6): 2; ofThing(1, 6): 0
        """);
    Runs.holds("they fell later than all others (also than those with greater numbers)", """
        kind(1, 1, 1, 1, 0, 0): 0
        fall(0, 0, 0): 0; fall(0, 3, 3): 1; fall(0, 3, 3): 2
        tangle(2, 0): 1
        pick(2, 0): 0
        ofThing(0, 3): 1; ofThing(1, 6): 1; ofThing(0, 6): 0
        ahead(1): 1
        """);
  }

  private static void tanglesAreGone() {
    Runs.holds("All TANGLES of it (that was taken) are gone.", """
        kind(1, 1, 1, 1, 0, 0): 0
        fall(0, 0, 0): 0; fall(0, 2, 0): 1; fall(0, 4, 0): 2; fall(0, 4, 0): 3
        tangle(0, 1): 1; tangle(0, 2): 2; tangle(1, 2): 2
        pick(0, 0): 0
        ofThing(0, 8): 0; ofThing(1, 8): 4; ofThing(2, 8): 2; ofThing(3, 8): 0
        shake(0): 0
        back(): 1
        ofThing(0, 8): 0
        tangle(0, 3): 1
        pick(0, 0): 0
        ofThing({0|3}, 8): 0
        """);
  }

  private static void nothingMoreUntilPutOrThrown() {
    Runs.holds("it can pick nothing more until it is PUT or THROWN", """
        kind(1, 1, 1, 6, 0, 5): 0; kind(1, 1, 1, 1, 0, 9): 1
        box(2): 0; box(10): 1
        fall(0, 0, 0): 0; fall(0, 2, 0): 1; fall(0, 4, 0): 2
        pick(0, 0): 0
        pick({0|1|2}, 0): !State
        back(): 0
        pick(0, 0): 0
        pick({0|1}, 0): !State
        put(0): 1
        pick(0, 0): !State
        pick(1, 0): -2
        pick(1, 0): 0
        put(0): -3
        pick({0|1|2}, 0): !State
        put(1): -2
        pick({0|1|2}, 0): !State
        many(5): 1
        back(): 0
        pick(2, 1): 0
        many(5): 2
        """);
  }
}
