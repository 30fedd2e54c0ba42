/** The boundary cases of "4. Boxes and orders", sentence by sentence. */
public final class BoxEdgesTest {
  public static void main(String[] args) {
    boxes();
    orderByKinds();
    lowestDigitFirst();
    noNeedOfTheKind();
    noNeedAsManyAreIn();
    nineOfOneKind();
    crushByWeightBehind();
    crushOfEachThing();
    crushOfTheStrongest();
    needGoesBeforeCrush();
    putCostsTicks();
    putOfRefusedOnes();
    throwing();
    throwingFallsLater();
    full();
    closing();
    Check.end("BoxEdgesTest");
  }

  private static void boxes() {
    Runs.holds("BOXES: at most 4, numbered from 0, each open for an ORDER", """
        many(3): 0
        kind(1, 1, 1, 1, 0, 0): 0; fall(0, 0, 0): 0
        ofBox({0|-1}, 0): !Index; wouldFit(0, {0|-1}): !Index; close({0|-1}): !Index
        put({0|-1}): !Index
        box(1): 0
        ofBox(0, 3): 1
        ofBox(1, 3): !Index; wouldFit(0, 1): !Index; close(1): !Index; put(1): !Index
        box(2): 1; box(3): 2
        ofBox(3, 2): !Index
        box(4): 3
        many(3): 4
        ofBox(0, 2): 1; ofBox(1, 2): 2; ofBox(2, 2): 3; ofBox(3, 2): 4; ofBox({0|1|2|3}, 3): 1
        box(5): !State
        close(0): 1
        box(5): !State
        many(3): 4
        ofBox({4|-1|MIN|MAX}, 0): !Index
        """);
  }

  private static void orderByKinds() {
    String sentence = "for each KIND how many are wished (told as a number with one decimal digit"
        + " for each KIND)";
    String greatest = "0";
    for (int kinds = 0; kinds <= 5; kinds++) {
      String run = Runs.times(kinds, "kind(1, 1, 1, 1, 0, 0)")
          + "box({0|-1|100000|1000000|MIN|MAX}): !Argument\n"
          + "box(1" + "0".repeat(kinds) + "): !Argument\n"
          + "box(9" + "0".repeat(kinds) + "): !Argument\n"
          + "box(1" + "0".repeat(Math.max(0, kinds - 1)) + "1): !Argument\n"
          + "many(3): 0\n";
      if (kinds > 0) {
        run = run + "box(1): 0; box(9): 1; box(1" + "0".repeat(kinds - 1) + "): 2\n"
            + "box(" + greatest + "): 3\n"
            + "ofBox(0, 2): 1; ofBox(1, 2): 9; ofBox(2, 2): 1; ofBox(3, 2): " + 9 * kinds + "\n";
      }
      Runs.holds(sentence + ", as there are " + kinds, run);
      greatest = "9".repeat(kinds + 1);
    }
  }

  private static void lowestDigitFirst() {
    Runs.holds("that of the KIND 0 the lowest one", """
        kind(1, 1, 1, 1, 0, 0): 0; kind(1, 1, 1, 1, 0, 0): 1; kind(1, 1, 1, 1, 0, 0): 2
        box(100): 0
        kind(1, 1, 1, 1, 0, 0): 3; kind(1, 1, 1, 1, 0, 0): 4
        box(1): 1; box(10000): 2; box(1010): 3
        fall(0, 0, 0): 0; fall(1, 1, 0): 1; fall(2, 2, 0): 2; fall(3, 3, 0): 3; fall(4, 4, 0): 4
        wouldFit({0|1|3|4}, 0): -2; wouldFit(2, 0): 0
        wouldFit({1|2|3|4}, 1): -2; wouldFit(0, 1): 0
        wouldFit({0|1|2|3}, 2): -2; wouldFit(4, 2): 0
        wouldFit({0|2|4}, 3): -2; wouldFit({1|3}, 3): 0
        """);
  }

  private static void noNeedOfTheKind() {
    Runs.holds("it is refused, if its ORDER has no need of that KIND (none is wished)", """
        kind(1, 1, 1, 1, 0, 9): 0; kind(1, 1, 1, 1, 0, 9): 1
        box(10): 0; box(2): 1
        fall(0, 0, 0): 0; fall(0, 2, 0): 1
        pick(0, 0): 0
        put(0): -2
        many(5): 0; ofThing(0, 5): 1; ofBox(0, 0): 0; ofBox(0, 2): 1
        put(1): 1
        many(5): -1; ofThing(0, 5): 3; ofBox(1, 0): 1
        """);
  }

  private static void noNeedAsManyAreIn() {
    Runs.holds("no need of that KIND (as many are in it)", """
        kind(1, 1, 1, 1, 0, 9): 0; kind(1, 1, 1, 1, 0, 9): 1
        box(12): 0
        fall(0, 0, 0): 0; fall(1, 2, 0): 1; fall(0, 4, 0): 2; fall(0, 0, 4): 3; fall(1, 2, 4): 4
        wouldFit({0|1|2|3|4}, 0): 0
        pick(0, 0): 0; put(0): 1
        wouldFit({0|1|2|3|4}, 0): 0
        pick(1, 0): 0; put(0): 2
        wouldFit({0|2|3}, 0): 0; wouldFit({1|4}, 0): -2
        pick(4, 0): 0; put(0): -2; back(): 0
        pick(2, 0): 0; put(0): 3
        wouldFit({0|1|2|3|4}, 0): -2
        pick(3, 0): 0; put(0): -2
        ofBox(0, 0): 3
        """);
  }

  private static void nineOfOneKind() {
    StringBuilder run = new StringBuilder("kind(1, 1, 1, 1, 0, 8): 0; box(9): 0\n");
    run.append(Runs.times(10, "fall(0, 0, 0)"));
    for (int count = 1; count <= 9; count++) {
      run.append("pick(" + (10 - count) + ", 0): 0; put(0): " + count + "\n");
    }
    run.append("ofBox(0, 0): 9; ofBox(0, 2): 0; ofBox(0, 5): 0; many(4): 1\n");
    run.append("pick(0, 0): 0; put(0): -2; ofBox(0, 0): 9; many(5): 0\n");
    Runs.holds("no need of that KIND (as many are in it), of 9 that are wished", run.toString());
  }

  private static void crushByWeightBehind() {
    String sentence = "each THING in the BOX bears the WEIGHTS of all that were put behind it: these"
        + " must be no more than its STRENGTH";
    Runs.holds(sentence, """
        kind(1, 1, 1, 1, 0, 5): 0; kind(1, 1, 1, 5, 0, 0): 1; kind(1, 1, 1, 6, 0, 200): 2
        box(111): 0; box(111): 1
        fall(0, 0, 0): 0; fall(1, 2, 0): 1; fall(2, 4, 0): 2; fall(0, 0, 4): 3
        wouldFit({0|1|2|3}, 0): 0
        pick(0, 0): 0; put(0): 1
        ofBox(0, 5): 5
        wouldFit(1, 0): 0; wouldFit(2, 0): -3
        pick(2, 0): 0
        put(0): -3
        many(5): 2; ofBox(0, 0): 1; ofBox(0, 4): 0; ofThing(2, 5): 1
        put(1): 1
        wouldFit(1, 1): 0; ofBox(1, 5): 200
        pick(1, 1): 0
        put(0): 2
        ofBox(0, 5): 0; ofBox(0, 1): 6; wouldFit(2, 0): -3
        """);
    Runs.holds(sentence + " (STRENGTH 0 bears nothing)", """
        kind(1, 1, 1, 1, 0, 0): 0; kind(1, 1, 1, 1, 0, 1): 1
        box(22): 0; box(22): 1
        fall(0, 0, 0): 0; fall(0, 2, 0): 1; fall(1, 4, 0): 2; fall(1, 0, 4): 3
        pick(0, 0): 0; put(0): 1
        wouldFit({1|2|3}, 0): -3; ofBox(0, 5): 0
        pick(2, 0): 0; put(0): -3; put(1): 1
        wouldFit({1|3}, 1): 0
        pick(3, 0): 0; put(1): 2
        wouldFit(1, 1): -3
        """);
  }

  private static void crushOfEachThing() {
    Runs.holds("each THING in the BOX bears the WEIGHTS of all that were put behind it (one in the"
        + " middle)", """
        kind(1, 1, 1, 1, 0, 9): 0; kind(1, 1, 1, 2, 0, 3): 1; kind(1, 1, 1, 3, 0, 200): 2
        kind(1, 1, 1, 4, 0, 200): 3
        box(1311): 0
        fall(0, 0, 0): 0; fall(1, 2, 0): 1; fall(2, 4, 0): 2; fall(3, 0, 2): 3; fall(2, 2, 2): 4
        pick(0, 0): 0; put(0): 1
        wouldFit({1|2|3}, 0): 0
        pick(1, 0): 0; put(0): 2
        ofBox(0, 5): 7
        wouldFit(2, 0): 0; wouldFit(3, 0): -3
        pick(2, 0): 0; put(0): 3
        ofBox(0, 5): 4
        wouldFit({3|4}, 0): -3
        """);
    Runs.holds("each THING in the BOX bears the WEIGHTS of all that were put behind it (the bottom)",
        """
        kind(1, 1, 1, 4, 0, 5): 0; kind(1, 1, 1, 2, 0, 200): 1; kind(1, 1, 1, 3, 0, 200): 2
        box(331): 0
        fall(0, 0, 0): 0; fall(1, 2, 0): 1; fall(1, 4, 0): 2; fall(2, 0, 2): 3; fall(0, 2, 2): 4
        pick(0, 0): 0; put(0): 1
        ofBox(0, 5): 5
        pick(1, 0): 0; put(0): 2
        ofBox(0, 5): 3
        wouldFit({2|3}, 0): 0; wouldFit(4, 0): -2
        pick(3, 0): 0; put(0): 3
        ofBox(0, 5): 0
        wouldFit({2|3}, 0): -3
        """);
  }

  private static void crushOfTheStrongest() {
    Runs.holds("no more than its STRENGTH (200, with WEIGHTS as great as can be picked)", """
        kind(3, 3, 1, 58, 0, 200): 0; kind(3, 3, 1, 26, 0, 200): 1; kind(3, 3, 1, 27, 0, 200): 2
        kind(1, 1, 1, 1, 0, 200): 3
        box(1113): 0
        fall(0, 0, 0): 0; fall(0, 3, 0): 1; fall(0, 0, 3): 2
        fall(2, 3, 3): 3; fall(1, 3, 3): 4; fall(3, 1, 1): 5
        pick(5, 0): 0; put(0): 1
        ofBox(0, 5): 200
        pick(0, 0): 0; put(0): 2
        pick(1, 0): -2; pick(1, 0): 0; put(0): 3
        ofBox(0, 5): 84
        pick(4, 0): 0; back(): 1; pick(4, 0): 0; back(): 1
        pick(2, 0): 0; put(0): 4
        ofBox(0, 5): 26
        wouldFit(4, 0): 0; wouldFit(3, 0): -3
        pick(4, 0): 0; put(0): 5
        ofBox(0, 5): 0; ofBox(0, 1): 201
        pick(3, 0): 0; put(0): -3
        """);
  }

  private static void needGoesBeforeCrush() {
    Runs.holds("it is refused, if its ORDER has no need of that KIND, or else if it would CRUSH"
        + " something", """
        kind(1, 1, 1, 2, 0, 1): 0; kind(1, 1, 1, 3, 0, 1): 1
        box(1): 0; box(2): 1
        fall(0, 0, 0): 0; fall(0, 2, 0): 1; fall(1, 4, 0): 2; fall(0, 0, 4): 3
        pick(0, 0): 0; put(0): 1
        wouldFit({0|1|2|3}, 0): -2
        pick(1, 0): 0
        put(0): -2
        put(1): 1
        wouldFit({0|1|3}, 1): -3; wouldFit(2, 1): -2
        pick(3, 0): 0
        put(0): -2; put(1): -3
        """);
  }

  private static void putCostsTicks() {
    Runs.holds("It costs 10.0 TICKS (times 2.0, if SLOW; refused ones, too).", """
        kind(1, 1, 1, 2, 0, 1): 0; kind(1, 1, 1, 3, 0, 1): 1
        box(2): 0; box(10): 1
        fall(0, 0, 0): 0; fall(0, 0, 2): 1
        pick(0, 0): 0
        clock(): 2.75
        put(1): -2
        clock(): 12.75
        person(true, true): false
        put(1): -2
        clock(): 32.75
        put(0): 1
        clock(): 52.75
        person(false, false): true
        pick(1, 0): 0
        clock(): 58.5
        put(0): -3
        clock(): 68.5
        person(false, true): false
        put(0): -3
        clock(): 88.5
        many(7): 0; many(8): 2; many(6): 0; many(9): 2
        """);
  }

  private static void putOfRefusedOnes() {
    Runs.holds("It costs 10.0 TICKS (and none, if it throws)", """
        kind(1, 1, 1, 1, 0, 1): 0
        box(2): 0; box(1): 1
        fall(0, 0, 0): 0
        put(0): !State; put(2): !Index
        clock(): 0.0
        close(1): 1
        pick(0, 0): 0
        clock(): 2.75
        put(1): !State; put({2|-1}): !Index
        clock(): 2.75
        put(0): 1
        clock(): 12.75
        put({0|1}): !State
        clock(): 12.75
        """);
  }

  private static void throwing() {
    Runs.holds("To THROW what the arm HAS: it is back in the BIN (it FALLS at its own corner),"
        + " without TICKS.", """
        back(): !State
        kind(2, 1, 2, 1, 0, 0): 0; kind(1, 1, 4, 1, 0, 0): 1
        back(): !State
        fall(0, 4, 5): 0; fall(1, 1, 1): 1
        back(): !State
        person(false, true): false
        pick(0, 0): 0
        clock(): 20.0
        fall(1, 5, 5): 2; fall(1, 3, 5): 3
        back(): 4
        clock(): 20.0
        many(5): -1; many(6): 0; many(7): 4; many(8): 5; many(9): 3; many(12): 6
        ofThing(0, 1): 4; ofThing(0, 2): 5; ofThing(0, 3): 4; ofThing(0, 4): 6; ofThing(0, 5): 0
        seen(5, 5): 0; seen(3, 5): 3; seen(4, 5): 0
        back(): !State
        """);
  }

  private static void throwingFallsLater() {
    Runs.holds("it is back in the BIN (it FALLS at its own corner): GROUND 0 without any", """
        kind(1, 1, 1, 1, 0, 9): 0
        box(9): 0
        fall(0, 0, 0): 0; fall(0, 0, 0): 1
        pick(1, 0): 0; back(): 1
        ofThing(0, 6): 2
        pick(1, 0): 0
        back(): 1
        pick(1, 0): 0; put(0): 1
        pick(0, 0): 0; back(): 0
        ofThing(0, 3): 0; ofThing(0, 6): 0
        """);
  }

  private static void full() {
    Runs.holds("An ORDER is FULL, if all is in the BOX that is wished.", """
        kind(1, 1, 1, 1, 0, 9): 0; kind(1, 1, 1, 1, 0, 9): 1
        box(11): 0; box(1): 1; box(10): 2
        fall(0, 0, 0): 0; fall(1, 2, 0): 1; fall(0, 4, 0): 2
        many(4): 0
        ofBox(0, 2): 2; ofBox(1, 2): 1
        pick(0, 0): 0
        many(4): 0
        put(0): 1
        many(4): 0; ofBox(0, 2): 1
        pick(1, 0): 0; put(0): 2
        many(4): 1; ofBox(0, 2): 0
        pick(2, 0): 0; put(1): 1
        many(4): 2
        close(2): 1
        many(4): 2
        close(0): 0
        many(4): 2
        """);
  }

  private static void closing() {
    Runs.holds("To CLOSE a BOX: it is not open any more (full or not).", """
        kind(1, 1, 1, 1, 0, 9): 0
        box(1): 0; box(9): 1; box(2): 2
        fall(0, 0, 0): 0; fall(0, 2, 0): 1
        pick(0, 0): 0; put(0): 1
        ofBox({0|1|2}, 3): 1
        wouldFit(1, 0): -2; wouldFit(1, 1): 0
        close(0): 0
        ofBox(0, 3): 0; ofBox({1|2}, 3): 1; wouldFit({0|1}, 0): -1
        close(0): !State
        pick(1, 0): 0
        put(0): !State
        close(1): 9
        ofBox(1, 3): 0; wouldFit({0|1}, 1): -1
        put(1): !State; close(1): !State
        ofBox(0, 0): 1; ofBox(0, 1): 1; ofBox(0, 4): 0; ofBox(0, 5): 9
        put(2): 1
        close(2): 1
        clock(): 28.5
        """);
  }
}
