/** The boundary cases of "1. Things in the bin", sentence by sentence. */
public final class BinEdgesTest {
  public static void main(String[] args) {
    cells();
    kinds();
    sizesOfKinds();
    weightsSkinsAndStrengths();
    thingsEver();
    cornersForAllSizes();
    cellsThatAreCovered();
    ground();
    groundCountsOnlyTheBin();
    topStays();
    groundAndLyingOnForAllSizes();
    lyingOnNeedsCommonCell();
    lyingOnWithAndWithoutGap();
    lyingOnIsForLaterOnes();
    lyingOnIsInTheBin();
    free();
    greatestTopIsSeen();
    shadowIsMoreThanThreeAbove();
    shadowIsOneFurtherInXOrY();
    shadowEndsAtTheWalls();
    tangled();
    shaking();
    Check.end("BinEdgesTest");
  }

  private static void cells() {
    Runs.holds("The BIN has CELLS (x, y), both 0 to 5.", """
        kind(1, 1, 1, 1, 0, 0): 0
        seen({0|5}, {0|5}): -1
        fall(0, 0, 0): 0; fall(0, 5, 0): 1; fall(0, 0, 5): 2; fall(0, 5, 5): 3
        seen(0, 0): 0; seen(5, 0): 1; seen(0, 5): 2; seen(5, 5): 3
        seen({-1|6|MIN|MAX}, {0|5}): !Index
        seen({0|5}, {-1|6|MIN|MAX}): !Index
        seen({-1|6}, {MIN|MAX}): !Index
        fall(0, {-1|6|MIN|MAX}, {0|5}): !Argument
        fall(0, {0|5}, {-1|6|MIN|MAX}): !Argument
        many(1): 4
        """);
  }

  private static void kinds() {
    Runs.holds("KINDS: at most 5, numbered from 0", """
        many(0): 0
        ofKind({0|-1}, 0): !Index; next({0|-1}): !Index; fall({0|-1}, 0, 0): !Index
        kind(1, 1, 1, 1, 0, 0): 0
        many(0): 1
        ofKind(0, 3): 1
        ofKind(1, 3): !Index; next(1): !Index; fall(1, 0, 0): !Index
        kind(1, 1, 1, 2, 0, 0): 1
        kind(1, 1, 1, 3, 0, 0): 2
        kind(1, 1, 1, 4, 0, 0): 3
        ofKind(4, 3): !Index
        kind(1, 1, 1, 5, 0, 0): 4
        many(0): 5
        kind(1, 1, 1, 6, 0, 0): !State
        many(0): 5
        ofKind(0, 3): 1; ofKind(3, 3): 4; ofKind(4, 3): 5
        fall(4, 0, 0): 0
        next(4): 0
        ofKind({5|-1}, 3): !Index; next({5|-1}): !Index; fall({5|-1}, 0, 0): !Index
        """);
  }

  private static void sizesOfKinds() {
    Runs.holds("a WIDTH (in x) and a DEPTH (in y; both 1 to 3)", """
        kind({0|4|-1|MIN|MAX}, 1, 1, 1, 0, 0): !Argument
        kind({0|4|-1|MIN|MAX}, 3, 1, 1, 0, 0): !Argument
        kind(1, {0|4|-1|MIN|MAX}, 1, 1, 0, 0): !Argument
        kind(3, {0|4|-1|MIN|MAX}, 1, 1, 0, 0): !Argument
        many(0): 0
        kind(3, 1, 1, 1, 0, 0): 0; kind(1, 3, 1, 1, 0, 0): 1
        kind(1, 1, 1, 1, 0, 0): 2; kind(3, 3, 1, 1, 0, 0): 3
        ofKind(0, 0): 3; ofKind(0, 1): 1
        ofKind(1, 0): 1; ofKind(1, 1): 3
        """);
    Runs.holds("a HEIGHT (1 to 4)", """
        kind(1, 1, {0|5|-1|MIN|MAX}, 1, 0, 0): !Argument
        many(0): 0
        kind(1, 1, 1, 1, 0, 0): 0; kind(1, 1, 4, 1, 0, 0): 1
        ofKind(0, 2): 1; ofKind(1, 2): 4
        """);
  }

  private static void weightsSkinsAndStrengths() {
    Runs.holds("a WEIGHT (1 to 60)", """
        kind(1, 1, 1, {0|61|-1|MIN|MAX}, 0, 0): !Argument
        many(0): 0
        kind(1, 1, 1, 1, 0, 0): 0; kind(1, 1, 1, 60, 0, 0): 1
        ofKind(0, 3): 1; ofKind(1, 3): 60
        """);
    Runs.holds("a SKIN (0 smooth, 1 rough, 2 iron)", """
        kind(1, 1, 1, 1, {-1|3|MIN|MAX}, 0): !Argument
        many(0): 0
        kind(1, 1, 1, 1, 0, 0): 0; kind(1, 1, 1, 1, 1, 0): 1; kind(1, 1, 1, 1, 2, 0): 2
        ofKind(0, 4): 0; ofKind(1, 4): 1; ofKind(2, 4): 2
        """);
    Runs.holds("a STRENGTH (0 to 200)", """
        kind(1, 1, 1, 1, 0, {-1|201|MIN|MAX}): !Argument
        many(0): 0
        kind(1, 1, 1, 1, 0, 0): 0; kind(1, 1, 1, 1, 0, 200): 1
        ofKind(0, 5): 0; ofKind(1, 5): 200
        """);
  }

  private static void thingsEver() {
    String sentence = "THINGS: at most 12 ever, numbered from 0, each of a KIND, that FALL";
    Runs.holds(sentence, """
        kind(1, 1, 4, 1, 2, 200): 0
        many(1): 0
        ofThing({0|-1}, 0): !Index
        fall(0, 3, 3): 0
        ofThing(0, 0): 0
        ofThing(1, 0): !Index
        """
        + Runs.times(10, "fall(0, 3, 3)") + """
        many(1): 11
        ofThing(11, 0): !Index
        fall(0, 3, 3): 11
        many({1|2}): 12
        ofThing(11, 3): 44; ofThing(11, 4): 48; many(12): 48; seen(3, 3): 11
        fall(0, 0, 0): !State
        ofThing({12|-1|MIN|MAX}, 0): !Index
        """);
    Runs.holds(sentence + " (ever, so also those that are not in the BIN)", """
        kind(1, 1, 1, 1, 0, 200): 0
        box(9): 0
        """
        + Runs.times(12, "fall(0, 3, 3)") + """
        pick(11, 0): 0
        fall(0, 0, 0): !State
        put(0): 1
        many(1): 12; many(2): 11
        fall(0, 0, 0): !State
        close(0): 8
        fall(0, 0, 0): !State
        """);
  }

  private static void cornersForAllSizes() {
    for (int width = 1; width <= 3; width++) {
      for (int depth = 1; depth <= 3; depth++) {
        int x = 6 - width;
        int y = 6 - depth;
        String far = (x + 1) + "|6|-1|MIN|MAX|2147483645";
        String deep = (y + 1) + "|6|-1|MIN|MAX|2147483645";
        Runs.holds("it covers the CELLS from that one on, by WIDTH and DEPTH (all of them in the BIN)",
            "kind(" + width + ", " + depth + ", 1, 1, 0, 0): 0\n"
            + "fall(0, {" + far + "}, {0|" + y + "}): !Argument\n"
            + "fall(0, {0|" + x + "}, {" + deep + "}): !Argument\n"
            + "fall(0, " + (x + 1) + ", " + (y + 1) + "): !Argument\n"
            + "many(1): 0\n"
            + "fall(0, 0, 0): 0; fall(0, " + x + ", " + y + "): 1\n"
            + "ofThing(1, 1): " + x + "; ofThing(1, 2): " + y + "; seen(5, 5): 1\n");
      }
    }
  }

  private static void cellsThatAreCovered() {
    Runs.holds("that FALL at a corner (x, y): it covers the CELLS from that one on, by WIDTH (in x)"
        + " and DEPTH (in y)", """
        kind(3, 1, 1, 1, 0, 0): 0; kind(1, 3, 1, 1, 0, 0): 1; kind(2, 2, 1, 1, 0, 0): 2
        fall(0, 1, 1): 0
        seen({1|2|3}, 1): 0
        seen({0|4}, 1): -1; seen({1|2|3}, {0|2}): -1
        fall(1, 5, 3): 1
        seen(5, {3|4|5}): 1
        seen(5, 2): -1; seen(4, {3|4|5}): -1
        fall(2, 1, 3): 2
        seen({1|2}, {3|4}): 2
        seen({0|3}, {3|4}): -1; seen({1|2}, {2|5}): -1
        """);
  }

  private static void ground() {
    Runs.holds("Its GROUND is the greatest TOP of all THINGS in the BIN that cover one of these"
        + " CELLS (0 without any); its TOP is GROUND and HEIGHT.", """
        kind(2, 2, 1, 1, 0, 0): 0; kind(1, 1, 4, 1, 0, 0): 1
        fall(0, 2, 2): 0
        ofThing(0, 3): 0; ofThing(0, 4): 1
        fall(1, 1, 1): 1; fall(1, 4, 1): 2; fall(1, 1, 4): 3; fall(1, 4, 4): 4
        fall(1, 1, 2): 5; fall(1, 4, 3): 6; fall(1, 3, 1): 7; fall(1, 2, 4): 8
        ofThing({1|2|3|4|5|6|7|8}, 3): 0
        ofThing({1|2|3|4|5|6|7|8}, 4): 4
        fall(0, 2, 1): 9
        ofThing(9, 3): 4; ofThing(9, 4): 5
        fall(0, 3, 3): 10
        ofThing(10, 3): 4; ofThing(10, 4): 5
        fall(1, 2, 2): 11
        ofThing(11, 3): 5; ofThing(11, 4): 9
        """);
  }

  private static void groundCountsOnlyTheBin() {
    Runs.holds("Its GROUND is the greatest TOP of all THINGS in the BIN", """
        kind(1, 1, 2, 1, 0, 200): 0
        box(9): 0
        fall(0, 2, 2): 0; fall(0, 2, 2): 1
        ofThing(1, 3): 2
        pick(1, 0): 0
        fall(0, 2, 2): 2
        ofThing(2, 3): 2
        put(0): 1
        fall(0, 2, 2): 3
        ofThing(3, 3): 4
        pick(3, 0): 0; put(0): 2; pick(2, 0): 0; put(0): 3; pick(0, 0): 0; put(0): 4
        fall(0, 2, 2): 4
        ofThing(4, 3): 0
        """);
  }

  private static void topStays() {
    Runs.holds("That (GROUND and TOP) stays, whatever is taken away later.", """
        kind(1, 1, 3, 1, 0, 200): 0; kind(2, 1, 1, 1, 0, 200): 1
        box(99): 0
        fall(0, 2, 2): 0; fall(0, 2, 2): 1; fall(0, 3, 2): 2; fall(1, 2, 2): 3
        ofThing(3, 3): 6
        pick(3, 0): 0
        ofThing(3, 3): 6; ofThing(3, 4): 7
        put(0): 1
        pick(1, 0): 0; put(0): 2; pick(0, 0): 0; put(0): 3
        ofThing(3, 3): 6; ofThing(3, 4): 7; ofThing(3, 1): 2; ofThing(3, 2): 2
        ofThing(1, 3): 3; ofThing(1, 4): 6
        ofThing(0, 3): 0; ofThing(0, 4): 3
        ofThing(2, 3): 0; ofThing(2, 4): 3
        """);
  }

  // A THING of each size at (2, 1), and a stone in each CELL: before it, or two of them upon it.
  private static void groundAndLyingOnForAllSizes() {
    for (int size = 0; size < 9; size++) {
      for (int place = 0; place < 36; place++) {
        int width = 1 + size % 3;
        int depth = 1 + size / 3;
        int x = place % 6;
        int y = place / 6;
        boolean isCommon = x >= 2 && x < 2 + width && y >= 1 && y < 1 + depth;
        String kinds = "kind(" + width + ", " + depth + ", 1, 1, 0, 0): 0\n"
            + "kind(1, 1, 1, 1, 0, 0): 1\n";
        String stone = "fall(1, " + x + ", " + y + ")\n";
        Runs.holds("the greatest TOP of all THINGS in the BIN that cover one of these CELLS (0"
            + " without any)", kinds + stone + "fall(0, 2, 1): 1\n"
            + "ofThing(1, 3): " + (isCommon ? 1 : 0) + "; ofThing(1, 4): " + (isCommon ? 2 : 1) + "\n"
            + "ofThing(0, 6): " + (isCommon ? 2 : 0) + "; seen(" + x + ", " + y + "): "
            + (isCommon ? 1 : 0) + "\n");
        Runs.holds("One LIES ON another one, if they have a CELL in common, and its GROUND is the"
            + " TOP of the other one or more", kinds + "fall(0, 2, 1): 0\n" + stone + stone
            + "ofThing(1, 3): " + (isCommon ? 1 : 0) + "; ofThing(2, 3): " + (isCommon ? 2 : 1) + "\n"
            + "ofThing(0, 6): " + (isCommon ? 6 : 0) + "; ofThing(1, 6): 4\n");
      }
    }
  }

  private static void lyingOnNeedsCommonCell() {
    Runs.holds("One LIES ON another one, if they have a CELL in common", """
        kind(2, 2, 1, 1, 0, 0): 0; kind(1, 1, 1, 1, 0, 0): 1
        fall(0, 2, 2): 0
        fall(1, 1, 2): 1; fall(1, 1, 2): 2
        fall(1, 4, 3): 3; fall(1, 4, 3): 4
        fall(1, 2, 1): 5; fall(1, 2, 1): 6
        fall(1, 3, 4): 7; fall(1, 3, 4): 8
        fall(1, 4, 4): 9; fall(1, 4, 4): 10
        ofThing(0, 6): 0
        ofThing(1, 6): 4; ofThing(3, 6): 16; ofThing(5, 6): 64; ofThing(7, 6): 256
        ofThing(9, 6): 1024
        fall(1, 3, 3): 11
        ofThing(0, 6): 2048
        """);
  }

  private static void lyingOnWithAndWithoutGap() {
    Runs.holds("and its GROUND is the TOP of the other one or more", """
        kind(2, 1, 1, 1, 0, 0): 0; kind(1, 1, 1, 1, 0, 0): 1
        fall(0, 0, 0): 0
        fall(1, 2, 0): 1
        fall(0, 1, 0): 2
        ofThing(0, 4): 1; ofThing(1, 4): 1; ofThing(2, 3): 1
        ofThing(0, 6): 4; ofThing(1, 6): 4
        fall(1, 4, 4): 3; fall(1, 4, 4): 4
        fall(0, 4, 4): 5
        fall(1, 5, 4): 6
        fall(0, 3, 4): 7
        ofThing(3, 6): 176; ofThing(4, 6): 160; ofThing(5, 6): 192; ofThing(6, 6): 0
        ofThing(7, 3): 3; ofThing(7, 6): 0
        """);
    Runs.holds("and its GROUND is the TOP of the other one or more (with a gap between)", """
        kind(2, 1, 1, 1, 0, 0): 0; kind(1, 1, 4, 1, 0, 0): 1
        fall(0, 0, 0): 0
        fall(1, 2, 0): 1
        fall(0, 1, 0): 2
        ofThing(2, 3): 4
        ofThing(0, 6): 4; ofThing(1, 6): 4; ofThing(2, 6): 0
        """);
  }

  private static void lyingOnIsForLaterOnes() {
    Runs.holds("and it fell later", """
        kind(1, 1, 1, 1, 0, 0): 0
        fall(0, 4, 4): 0; fall(0, 4, 4): 1
        ofThing(0, 6): 2; ofThing(1, 6): 0
        pick(1, 0): 0
        fall(0, 4, 4): 2
        ofThing(0, 6): 4
        back(): 2
        ofThing(0, 6): 6; ofThing(2, 6): 2; ofThing(1, 6): 0
        """);
  }

  private static void lyingOnIsInTheBin() {
    Runs.holds("One LIES ON another one (both in the BIN)", """
        kind(1, 1, 1, 1, 0, 0): 0
        box(9): 0
        fall(0, 4, 4): 0; fall(0, 4, 4): 1
        pick(1, 0): 0
        ofThing(0, 6): 0; ofThing(1, 6): 0; ahead(0): 0
        put(0): 1
        ofThing(0, 6): 0; ahead(0): 0
        pick(0, 0): 0
        fall(0, 4, 4): 2
        ofThing({0|1}, 6): 0; ahead({0|1}): 0; ofThing(2, 6): 0
        back(): 1
        ofThing(2, 6): 1; ofThing({0|1}, 6): 0
        """);
  }

  private static void free() {
    Runs.holds("One is FREE, if none LIES ON it.", """
        kind(2, 1, 1, 1, 2, 0): 0; kind(1, 1, 1, 1, 2, 0): 1
        fall(0, 2, 2): 0
        hinders(0, 2): 0
        fall(1, 1, 2): 1
        hinders(0, 2): 0
        fall(1, 3, 2): 2
        hinders(0, 2): 1; hinders(2, 2): 0
        fall(1, 2, 2): 3
        hinders(0, 2): 1
        pick(2, 2): 0
        hinders(0, 2): 1
        back(): 1
        pick(3, 2): 0
        hinders(0, 2): 1
        fall(1, 5, 5): 4
        back(): 1
        pick(2, 2): 0
        hinders(0, 2): 1; hinders(4, 2): 0
        """);
  }

  private static void greatestTopIsSeen() {
    Runs.holds("In a CELL one sees the THING with the greatest TOP there", """
        kind(2, 1, 1, 1, 0, 9): 0; kind(1, 1, 1, 1, 0, 9): 1
        seen(3, 3): -1
        fall(0, 3, 3): 0
        seen({3|4}, 3): 0
        fall(1, 4, 3): 1
        seen(3, 3): 0; seen(4, 3): 1
        ofThing(0, 7): 1; ofThing(1, 7): 1
        pick(1, 0): 0
        seen({3|4}, 3): 0
        fall(0, 2, 3): 2
        back(): 1
        seen({2|3}, 3): 2; seen(4, 3): 1
        ofThing(0, 7): 0; ofThing(2, 7): 2
        """);
  }

  private static void shadowIsMoreThanThreeAbove() {
    for (String side : new String[] {"1, 2", "3, 2", "2, 1", "2, 3"}) {
      for (int top = 1; top <= 4; top++) {
        for (int above = 3; above <= 4; above++) {
          int last = top - 1;
          boolean isShadow = above == 4;
          Runs.holds("but nothing, if a THING that covers a CELL next to it has a TOP that is more"
              + " than 3 above that one",
              "kind(1, 1, 1, 1, 0, 0): 0\n"
              + Runs.times(top, "fall(0, 2, 2)")
              + Runs.times(top + above, "fall(0, " + side + ")")
              + "ofThing(" + last + ", 4): " + top + "; many(12): " + (top + above) + "\n"
              + "seen(2, 2): " + (isShadow ? -1 : last) + "\n"
              + "ofThing(" + last + ", 7): " + (isShadow ? 0 : 1) + "\n"
              + "seen(" + side + "): " + (top + top + above - 1) + "\n");
        }
      }
    }
  }

  private static void shadowIsOneFurtherInXOrY() {
    for (int place = 0; place < 36; place++) {
      int x = place % 6;
      int y = place / 6;
      int way = Math.abs(x - 2) + Math.abs(y - 3);
      if (way > 0) {
        Runs.holds("a CELL next to it (one further in x, or in y, to any side)",
            "kind(1, 1, 1, 1, 0, 0): 0; kind(1, 1, 4, 1, 0, 0): 1\n"
            + "fall(0, 2, 3): 0; fall(1, " + x + ", " + y + "): 1; fall(1, " + x + ", " + y + "): 2\n"
            + "seen(2, 3): " + (way == 1 ? -1 : 0) + "; ofThing(0, 7): " + (way == 1 ? 0 : 1) + "\n"
            + "pick(2, 0): 0\n"
            + "seen(2, 3): 0; ofThing(0, 7): 1\n");
      }
    }
  }

  // The end of one row of CELLS is not beside the beginning of the next one.
  private static void shadowEndsAtTheWalls() {
    Runs.holds("a CELL next to it (at the walls of the BIN)", """
        kind(1, 1, 1, 1, 0, 0): 0; kind(1, 1, 4, 1, 0, 0): 1
        fall(0, 5, 0): 0; fall(0, 0, 5): 1; fall(0, 5, 5): 2
        fall(1, 0, 1): 3; fall(1, 0, 1): 4
        fall(1, 5, 4): 5; fall(1, 5, 4): 6
        fall(1, 1, 0): 7; fall(1, 1, 0): 8
        seen(5, 0): 0; seen(0, 5): 1; seen(5, 5): -1; seen(0, 0): -1
        fall(0, 0, 0): 9
        seen(0, 0): -1; ofThing(9, 7): 0; hinders(9, 0): 2
        """);
  }

  private static void tangled() {
    Runs.holds("Two THINGS can be TANGLED (told by hand)", """
        kind(1, 1, 1, 1, 0, 0): 0
        fall(0, 0, {0|1|2|3|4|5}); fall(0, 3, {0|1|2|3|4|5})
        ofThing({0|11}, 8): 0
        tangle(0, 1): 1; tangle(0, 2): 2; tangle(3, 0): 1; tangle(0, 4): 4; tangle(0, 5): 5
        tangle(0, 6): 6; tangle(7, 0): 1; tangle(0, 8): 8; tangle(0, 9): 9; tangle(0, 10): 10
        tangle(0, 11): 11
        ofThing(0, 8): 4094; ofThing({1|7|11}, 8): 1
        tangle(0, 11): 11; tangle(11, 0): 1
        tangle(11, 10): 2
        ofThing(0, 8): 4094; ofThing(11, 8): 1025; ofThing(10, 8): 2049
        """);
  }

  private static void shaking() {
    Runs.holds("SHAKING one ends all TANGLES of it.", """
        kind(1, 1, 1, 1, 0, 0): 0
        fall(0, 0, {0|1|2|3|4|5}); fall(0, 3, {0|1|2|3|4|5})
        shake({0|11}): 0
        tangle(0, {1|2|3|4|5|6|7|8|9|10|11})
        tangle(10, 11): 2
        shake(0): 11
        ofThing({0|1|9}, 8): 0; ofThing(11, 8): 1024; ofThing(10, 8): 2048
        shake(0): 0; shake(1): 0
        shake(11): 1
        ofThing({10|11}, 8): 0
        shake(10): 0
        """);
  }
}
