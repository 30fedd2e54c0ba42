/** The boundary cases of "2. Tools", sentence by sentence. */
public final class ToolEdgesTest {
  private static final String WHAT_HINDERS = "What hinders a pick, the first that holds: ";

  public static void main(String[] args) {
    cup();
    cupByCellsThatAreSeen();
    fingersByHeightAndSkin();
    fingersAtTheWalls();
    fingersAllAlongTheSide();
    fingersOnBothSidesOfOneKind();
    fingersBesideTops();
    magnet();
    notFree();
    notSeen();
    halfOfFewCellsIsSeen();
    fourOfNineCellsAreTooFew();
    forceIsZero();
    forceIsLessThanWeight();
    cupOfNineCells();
    liftCountsDirectTangles();
    somebodyIsNear();
    theFirstThatHolds();
    Check.end("ToolEdgesTest");
  }

  private static void cup() {
    Runs.holds("0 CUP: 6.5f * how many of its CELLS it is seen in, for a smooth one; 0f for others",
        """
        kind(1, 1, 1, 1, 0, 0): 0; kind(1, 1, 1, 1, 1, 0): 1; kind(1, 1, 1, 1, 2, 0): 2
        kind(3, 3, 4, 1, 0, 0): 3; kind(3, 3, 4, 1, 1, 0): 4
        fall(0, 0, 0): 0; fall(1, 0, 2): 1; fall(2, 0, 4): 2
        fall(3, 3, 0): 3; fall(4, 3, 3): 4
        force(0, 0): 6.5; force(1, 0): 0.0; force(2, 0): 0.0
        force(3, 0): 58.5; force(4, 0): 0.0
        pick(0, 0): 0
        force(0, 0): 0.0
        """);
  }

  private static void cupByCellsThatAreSeen() {
    Runs.holds("CUP: how many of its CELLS it is seen in (also if it is not FREE)", """
        kind(3, 3, 1, 1, 0, 0): 0; kind(1, 1, 1, 1, 1, 0): 1; kind(1, 1, 4, 1, 1, 0): 2
        fall(0, 1, 1): 0
        force(0, 0): 58.5
        fall(1, 2, 2): 1
        ofThing(0, 7): 8; force(0, 0): 52.0
        fall(2, 0, 1): 2
        force(0, 0): 52.0
        fall(1, 0, 1): 3
        ofThing(0, 7): 7; force(0, 0): 45.5
        fall(0, 1, 1): 4
        ofThing(0, 7): 0; force(0, 0): 0.0
        ofThing(4, 3): 2; force(4, 0): 58.5
        """);
  }

  private static void fingersByHeightAndSkin() {
    Runs.holds("1 FINGERS: 18f + 4f * HEIGHT; half of it (times 0.5f) for a smooth one", """
        kind(1, 1, 1, 1, 1, 0): 0; kind(1, 1, 4, 1, 1, 0): 1
        kind(1, 1, 1, 1, 0, 0): 2; kind(1, 1, 4, 1, 0, 0): 3
        kind(1, 1, 3, 1, 2, 0): 4
        fall(0, 1, 1): 0; fall(1, 3, 1): 1; fall(2, 5, 1): 2; fall(3, 1, 4): 3; fall(4, 3, 4): 4
        force(0, 1): 22.0; force(1, 1): 34.0
        force(2, 1): 11.0; force(3, 1): 17.0
        force(4, 1): 30.0
        pick(1, 1): 0
        force(1, 1): 0.0
        """);
  }

  private static void fingersAtTheWalls() {
    for (int size = 0; size < 9; size++) {
      int width = 1 + size % 3;
      int depth = 1 + size / 3;
      for (int x = 0; x + width <= 6; x++) {
        for (int y = 0; y + depth <= 6; y++) {
          boolean isInX = x > 0 && x + width < 6;
          boolean isInY = y > 0 && y + depth < 6;
          Runs.holds("ROOM: the CELLS along that side (next to its own ones) are in the BIN",
              "kind(" + width + ", " + depth + ", 1, 1, 1, 0): 0\n"
              + "fall(0, " + x + ", " + y + "): 0\n"
              + "force(0, 1): " + (isInX || isInY ? "22.0" : "0.0") + "\n"
              + "hinders(0, 1): " + (isInX || isInY ? "0" : "3") + "\n");
        }
      }
    }
  }

  // One of 3 by 3 in the middle; as a stone in y leaves only the room in x, one in x takes that.
  private static void fingersAllAlongTheSide() {
    for (int place = 0; place < 36; place++) {
      int x = place % 6;
      int y = place / 6;
      boolean isAlongX = x >= 1 && x <= 3;
      boolean isAlongY = y >= 1 && y <= 3;
      boolean isBesideInX = (x == 0 || x == 4) && isAlongY;
      boolean isBesideInY = (y == 0 || y == 4) && isAlongX;
      if (!isAlongX || !isAlongY) {
        String stone = "fall(1, " + x + ", " + y + "); force(0, 1): ";
        for (String other : new String[] {"1, 0", "2, 4", "3, 0", "3, 4"}) {
          alongSide("fall(1, " + other + "); force(0, 1): 22.0; "
              + stone + (isBesideInX ? "0.0" : "22.0"));
        }
        for (String other : new String[] {"0, 1", "4, 2", "0, 3", "4, 3"}) {
          alongSide("fall(1, " + other + "); force(0, 1): 22.0; "
              + stone + (isBesideInY ? "0.0" : "22.0"));
        }
      }
    }
  }

  private static void alongSide(String run) {
    Runs.holds("no THING that covers one of these (the CELLS along that side) has a TOP above its"
        + " GROUND", "kind(3, 3, 1, 1, 1, 0): 0; kind(1, 1, 1, 1, 1, 0): 1; fall(0, 1, 1): 0\n" + run);
  }

  private static void fingersOnBothSidesOfOneKind() {
    Runs.holds("if on both sides in x, or on both sides in y, there is ROOM; otherwise 0f", """
        kind(1, 1, 1, 1, 1, 0): 0; kind(1, 1, 1, 1, 0, 0): 1
        fall(0, 2, 2): 0
        fall(1, 1, 2): 1
        force(0, 1): 22.0
        fall(1, 3, 2): 2
        force(0, 1): 22.0
        fall(1, 2, 3): 3
        force(0, 1): 0.0
        pick(1, 0): 0
        force(0, 1): 0.0
        back(): 0
        pick(3, 0): 0
        force(0, 1): 22.0
        back(): 0
        fall(1, 2, 1): 4
        force(0, 1): 0.0
        """);
  }

  private static void fingersBesideTops() {
    Runs.holds("no THING that covers one of these has a TOP above its GROUND", """
        kind(1, 1, 1, 1, 1, 0): 0
        box(9): 0
        fall(0, 2, 2): 0; fall(0, 2, 2): 1
        fall(0, 1, 2): 2; fall(0, 3, 2): 3; fall(0, 2, 1): 4; fall(0, 2, 3): 5
        force(1, 1): 22.0
        force(0, 1): 0.0
        fall(0, 1, 2): 6
        force(1, 1): 22.0
        fall(0, 2, 3): 7
        force(1, 1): 0.0
        pick(6, 1): 0
        force(1, 1): 22.0
        back(): 1
        force(1, 1): 0.0
        fall(0, 2, 2): 8
        ofThing(8, 3): 2; force(8, 1): 22.0
        """);
  }

  private static void magnet() {
    Runs.holds("2 MAGNET: 9f * HEIGHT for iron, 0f for others", """
        kind(1, 1, 1, 1, 2, 0): 0; kind(1, 1, 4, 1, 2, 0): 1
        kind(1, 1, 4, 1, 0, 0): 2; kind(1, 1, 4, 1, 1, 0): 3
        fall(0, 0, 0): 0; fall(1, 2, 2): 1; fall(2, 4, 4): 2; fall(3, 0, 4): 3
        force(0, 2): 9.0; force(1, 2): 36.0
        force(2, 2): 0.0; force(3, 2): 0.0
        fall(1, 1, 2): 4; fall(1, 1, 2): 5; fall(1, 2, 2): 6
        force(1, 2): 36.0
        pick(0, 2): 0
        force(0, 2): 0.0
        """);
  }

  private static void notFree() {
    Runs.holds(WHAT_HINDERS + "1 it is not FREE", """
        kind(2, 1, 1, 1, 2, 0): 0; kind(1, 1, 1, 60, 1, 0): 1
        fall(0, 2, 2): 0
        hinders(0, {1|2}): 0
        fall(1, 3, 2): 1
        hinders(0, {0|1|2}): 1
        person(true, false): false
        hinders(0, {0|1|2}): 1
        fall(1, 2, 2): 2
        hinders(0, {0|1|2}): 1
        ofThing(0, 7): 0
        """);
  }

  private static void notSeen() {
    Runs.holds(WHAT_HINDERS + "2 SEEN is less than 0.5f (0 of 1)", """
        kind(1, 1, 1, 1, 2, 0): 0; kind(1, 1, 4, 1, 1, 0): 1
        fall(0, 2, 2): 0
        fall(1, 1, 2): 1
        hinders(0, 2): 0
        fall(0, 1, 2): 2
        ofThing(0, 7): 0
        hinders(0, {0|1|2}): 2
        pick(2, 2): 0
        hinders(0, 2): 0
        """);
  }

  // Towers at the ends of a row of cells, and beside it, put its cells into shadow one by one.
  private static void halfOfFewCellsIsSeen() {
    Runs.holds(WHAT_HINDERS + "2 SEEN is less than 0.5f (1 of 2, and 0 of 2)", """
        kind(2, 1, 1, 1, 2, 0): 0; kind(1, 1, 4, 1, 1, 0): 1
        fall(0, 2, 2): 0
        hinders(0, 2): 0
        fall(1, 1, 2): 1; fall(1, 1, 2): 2
        ofThing(0, 7): 1; hinders(0, 2): 0
        fall(1, 4, 2): 3; fall(1, 4, 2): 4
        ofThing(0, 7): 0; hinders(0, {0|1|2}): 2
        """);
    Runs.holds(WHAT_HINDERS + "2 SEEN is less than 0.5f (2 of 3, and 1 of 3)", """
        kind(1, 3, 1, 1, 2, 0): 0; kind(1, 1, 4, 1, 1, 0): 1
        fall(0, 2, 2): 0
        fall(1, 2, 1): 1; fall(1, 2, 1): 2
        ofThing(0, 7): 2; hinders(0, 2): 0
        fall(1, 2, 5): 3; fall(1, 2, 5): 4
        ofThing(0, 7): 1; hinders(0, {0|1|2}): 2
        """);
    Runs.holds(WHAT_HINDERS + "2 SEEN is less than 0.5f (2 of 4, and 1 of 4)", """
        kind(2, 2, 1, 1, 2, 0): 0; kind(1, 1, 4, 1, 1, 0): 1; kind(2, 1, 4, 1, 1, 0): 2
        fall(0, 2, 2): 0
        fall(2, 2, 1): 1; fall(2, 2, 1): 2
        ofThing(0, 7): 2; hinders(0, 2): 0
        fall(1, 1, 3): 3; fall(1, 1, 3): 4
        ofThing(0, 7): 1; hinders(0, {0|1|2}): 2
        """);
    Runs.holds(WHAT_HINDERS + "2 SEEN is less than 0.5f (3 of 6, and 2 of 6)", """
        kind(3, 2, 1, 1, 2, 0): 0; kind(1, 1, 4, 1, 1, 0): 1; kind(3, 1, 4, 1, 1, 0): 2
        fall(0, 2, 2): 0
        fall(2, 2, 1): 1; fall(2, 2, 1): 2
        ofThing(0, 7): 3; hinders(0, 2): 0
        fall(1, 1, 3): 3; fall(1, 1, 3): 4
        ofThing(0, 7): 2; hinders(0, {0|1|2}): 2
        """);
  }

  private static void fourOfNineCellsAreTooFew() {
    Runs.holds(WHAT_HINDERS + "2 SEEN is less than 0.5f (5 of 9, and 4 of 9)", """
        kind(3, 3, 1, 1, 2, 0): 0; kind(1, 1, 4, 1, 1, 0): 1; kind(3, 1, 4, 1, 1, 0): 2
        fall(0, 1, 1): 0
        fall(2, 1, 0): 1; fall(2, 1, 0): 2
        ofThing(0, 7): 6; hinders(0, 2): 0
        fall(1, 0, 2): 3; fall(1, 0, 2): 4
        ofThing(0, 7): 5; hinders(0, 2): 0
        fall(1, 4, 3): 5; fall(1, 4, 3): 6
        ofThing(0, 7): 4; hinders(0, {0|1|2}): 2
        pick(6, 1): 0
        hinders(0, 2): 0
        """);
  }

  private static void forceIsZero() {
    Runs.holds(WHAT_HINDERS + "3 FORCE is 0f", """
        kind(1, 1, 1, 1, 0, 0): 0; kind(1, 1, 1, 1, 1, 0): 1; kind(1, 1, 1, 1, 2, 0): 2
        fall(0, 1, 1): 0; fall(1, 3, 3): 1; fall(2, 5, 5): 2
        hinders(0, 0): 0; hinders(0, 1): 0; hinders(0, 2): 3
        hinders(1, 0): 3; hinders(1, 1): 0; hinders(1, 2): 3
        hinders(2, 0): 3; hinders(2, 1): 3; hinders(2, 2): 0
        """);
  }

  private static void forceIsLessThanWeight() {
    String sentence = WHAT_HINDERS + "4 FORCE is less than its LIFT";
    Runs.holds(sentence + " (the cup, the fingers at smooth ones)", """
        kind(1, 1, 1, 6, 0, 0): 0; kind(1, 1, 1, 7, 0, 0): 1
        kind(2, 1, 1, 13, 0, 0): 2; kind(2, 1, 1, 14, 0, 0): 3
        kind(1, 1, 1, 12, 0, 0): 4
        fall(0, 1, 0): 0; fall(1, 3, 0): 1; fall(2, 1, 2): 2; fall(3, 1, 4): 3; fall(4, 4, 4): 4
        hinders(0, 0): 0; hinders(1, 0): 4
        hinders(2, 0): 0; hinders(3, 0): 4
        hinders(1, 1): 0; hinders(4, 1): 4
        """);
    Runs.holds(sentence + " (the fingers, the magnet)", """
        kind(1, 1, 1, 22, 1, 0): 0; kind(1, 1, 1, 23, 1, 0): 1
        kind(1, 1, 4, 36, 2, 0): 2; kind(1, 1, 4, 37, 2, 0): 3
        kind(1, 1, 1, 11, 0, 0): 4
        fall(0, 1, 0): 0; fall(1, 3, 0): 1; fall(2, 1, 2): 2; fall(3, 1, 4): 3; fall(4, 4, 4): 4
        hinders(0, 1): 0; hinders(1, 1): 4
        hinders(2, 2): 0; hinders(3, 2): 4
        hinders(4, 1): 0
        """);
  }

  private static void cupOfNineCells() {
    Runs.holds(WHAT_HINDERS + "4 FORCE is less than its LIFT: WEIGHT, and WEIGHTS of all that are"
        + " TANGLED with it, as a float", """
        kind(3, 3, 1, 58, 0, 0): 0; kind(3, 3, 1, 59, 0, 0): 1; kind(3, 3, 1, 57, 0, 0): 2
        kind(1, 1, 1, 1, 0, 0): 3
        fall(0, 0, 0): 0; fall(1, 3, 0): 1; fall(2, 0, 3): 2; fall(3, 5, 5): 3; fall(3, 3, 5): 4
        force({0|1|2}, 0): 58.5
        hinders(0, 0): 0; hinders(1, 0): 4; hinders(2, 0): 0
        tangle(0, 3): 1; tangle(2, 4): 1
        hinders(0, 0): 4; hinders(2, 0): 0
        tangle(2, 3): 2
        hinders(2, 0): 4
        """);
  }

  private static void liftCountsDirectTangles() {
    Runs.holds("its LIFT: WEIGHT, and WEIGHTS of all that are TANGLED with it (of these directly)",
        """
        kind(1, 1, 1, 10, 1, 0): 0; kind(1, 1, 1, 12, 1, 0): 1; kind(1, 1, 1, 1, 1, 0): 2
        fall(0, 1, 1): 0; fall(1, 3, 1): 1; fall(2, 1, 3): 2; fall(1, 3, 3): 3
        hinders({0|1|2|3}, 1): 0
        tangle(0, 1): 1
        hinders({0|1}, 1): 0
        tangle(2, 1): 1
        hinders(0, 1): 0; hinders(2, 1): 0; hinders(1, 1): 4
        tangle(2, 0): 2
        hinders({0|1|2}, 1): 4
        shake(2): 2
        hinders({0|1|2}, 1): 0
        tangle(3, 1): 1
        hinders({3|1}, 1): 4; hinders(0, 1): 0
        """);
  }

  private static void somebodyIsNear() {
    Runs.holds(WHAT_HINDERS + "5 somebody is NEAR (at first nobody is); 0 nothing", """
        kind(1, 1, 1, 6, 0, 0): 0
        fall(0, 1, 1): 0
        hinders(0, 0): 0
        person(false, true): false
        hinders(0, 0): 0
        person(true, true): false
        hinders(0, {0|1}): 5; hinders(0, 2): 3
        pick(0, 0): 5
        person(true, false): true
        hinders(0, 0): 5
        person(false, false): true
        hinders(0, 0): 0
        person(false, false): false
        pick(0, 0): 0
        hinders(0, {0|1|2}): -1
        """);
  }

  // One that is not free, not seen, without force for the cup, too heavy for the magnet.
  private static void theFirstThatHolds() {
    Runs.holds(WHAT_HINDERS + "1, 2, 3, 4, 5, 0", """
        kind(2, 1, 1, 10, 2, 0): 0; kind(1, 1, 4, 1, 1, 0): 1; kind(1, 1, 1, 9, 2, 0): 2
        fall(0, 2, 2): 0
        fall(2, 5, 0): 1
        hinders(0, 0): 3; hinders(0, 1): 0; hinders(0, 2): 4; hinders(1, 2): 0
        person(true, false): false
        hinders(0, 0): 3; hinders(0, 1): 5; hinders(0, 2): 4; hinders(1, 2): 5
        fall(1, 1, 2): 2; fall(1, 1, 2): 3; fall(1, 4, 2): 4; fall(1, 4, 2): 5
        hinders(0, {0|1|2}): 2
        fall(2, 2, 2): 6
        hinders(0, {0|1|2}): 1
        """);
  }
}
