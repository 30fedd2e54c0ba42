/** Promises 12 to 20: what one asks. */
public final class AskedTest {
  private static final int[] FAR = {-1, Integer.MIN_VALUE, Integer.MAX_VALUE};

  public static void main(String[] args) {
    promise12OfKind();
    promise13OfThing();
    promise13LyingOn();
    promise13BesideIsNotOn();
    promise14Hinders();
    promise14HalfSeen();
    promise14LiftOfDirectTangles();
    promise15Cup();
    promise15Fingers();
    promise15FingersAtWalls();
    promise15FingersSideBySide();
    promise15Magnet();
    promise16Ticks();
    promise17Clock();
    promise18Seen();
    promise18ShadowOverTheWholeSide();
    promise18ShadowInAllTheBin();
    promise19OfBox();
    promise20Many();
    promise20GreatestTop();
    wrongArguments();
    Check.end("AskedTest");
  }

  private static PickCell withKinds() {
    PickCell cell = new PickCell();
    cell.kind(2, 3, 4, 5, 1, 6);
    cell.kind(1, 1, 2, 3, 0, 7);
    cell.kind(1, 1, 1, 9, 2, 8);
    return cell;
  }

  private static void promise12OfKind() {
    PickCell cell = withKinds();
    int[] due = {2, 3, 4, 5, 1, 6, 0};
    for (int what = 0; what <= 6; what++) {
      Check.same("ofKind(0, " + what + ")", cell.ofKind(0, what), due[what]);
    }
    Check.same("SKIN of 2", cell.ofKind(2, 4), 2);
    cell.fall(1, 0, 0);
    cell.fall(1, 3, 3);
    cell.fall(2, 5, 5);
    Check.same("things of 1", cell.ofKind(1, 6), 2);
    Check.same("things of 2", cell.ofKind(2, 6), 1);
    Check.same("things of 0", cell.ofKind(0, 6), 0);
    cell.pick(0, 0);
    Check.same("things of 1, one in the arm", cell.ofKind(1, 6), 1);
  }

  private static void promise13OfThing() {
    PickCell cell = withKinds();
    cell.fall(1, 4, 2);
    cell.fall(2, 4, 2);
    cell.fall(0, 0, 1);
    cell.tangle(2, 0);
    int[] due = {1, 4, 2, 0, 2, 0, 2, 0, 4, 0};
    for (int what = 0; what <= 9; what++) {
      Check.same("ofThing(0, " + what + ")", cell.ofThing(0, what), due[what]);
    }
    Check.same("6 cells of 2 are seen", cell.ofThing(2, 7), 6);
    Check.same("pick(1, 2)", cell.pick(1, 2), 0);
    cell.box(100);
    cell.box(100);
    Check.same("in the arm", cell.ofThing(1, 5), 1);
    Check.same("seen nowhere", cell.ofThing(1, 7), 0);
    Check.same("nothing lies on 0", cell.ofThing(0, 6), 0);
    Check.same("x as it fell last", cell.ofThing(1, 1), 4);
    Check.same("TOP as it fell last", cell.ofThing(1, 4), 3);
    cell.fall(2, 4, 2);
    Check.same("nothing lies on it in the arm", cell.ofThing(1, 6), 0);
    cell.put(1);
    Check.same("in the box 1", cell.ofThing(1, 5), 3);
  }

  private static void promise13LyingOn() {
    PickCell cell = new PickCell();
    cell.kind(2, 1, 1, 1, 0, 0);
    cell.kind(1, 1, 1, 1, 0, 0);
    cell.fall(0, 1, 1);
    cell.fall(0, 2, 1);
    cell.fall(0, 3, 1);
    cell.fall(1, 1, 2);
    Check.same("on 0, the third has no cell of it", cell.ofThing(0, 6), 2);
    Check.same("on 1", cell.ofThing(1, 6), 4);
    Check.same("on 2", cell.ofThing(2, 6), 0);
    cell.fall(1, 2, 1);
    Check.same("on 0, with a gap", cell.ofThing(0, 6), 2 + 16);
    Check.same("on 3", cell.ofThing(3, 6), 0);
  }

  private static void promise13BesideIsNotOn() {
    int[][] sides = {{1, 2}, {4, 2}, {2, 1}, {2, 4}, {3, 1}, {3, 4}, {1, 3}, {4, 3}, {1, 1}, {4, 4}};
    PickCell cell = new PickCell();
    cell.kind(2, 2, 1, 1, 0, 0);
    cell.kind(1, 1, 4, 1, 0, 0);
    cell.kind(1, 1, 1, 1, 0, 0);
    cell.fall(0, 2, 2);
    for (int i = 0; i < 5; i++) {
      cell.fall(1, sides[2 * i][0], sides[2 * i][1]);
      cell.fall(1, sides[2 * i + 1][0], sides[2 * i + 1][1]);
    }
    Check.same("nothing lies on it", cell.ofThing(0, 6), 0);
    PickCell higher = new PickCell();
    higher.kind(2, 2, 1, 1, 0, 0);
    higher.kind(1, 1, 4, 1, 0, 0);
    higher.fall(0, 2, 2);
    for (int i = 0; i < 4; i++) {
      higher.fall(1, sides[i][0], sides[i][1]);
      higher.fall(1, sides[i][0], sides[i][1]);
    }
    Check.same("nothing higher beside it lies on it", higher.ofThing(0, 6), 0);
    Check.same("it is free", higher.ahead(0), 0);
  }

  private static void promise14Hinders() {
    PickCell cell = withKinds();
    cell.fall(1, 2, 2);
    cell.fall(2, 2, 2);
    Check.same("1 not free", cell.hinders(0, 0), 1);
    Check.same("3 without force", cell.hinders(1, 0), 3);
    Check.same("0 for the magnet, with 9 for 9", cell.hinders(1, 2), 0);
    cell.person(true, false);
    Check.same("5 somebody near", cell.hinders(1, 2), 5);
    Check.same("3 goes before 5", cell.hinders(1, 0), 3);
    cell.fall(1, 5, 5);
    cell.tangle(1, 2);
    Check.same("4 too heavy with what is tangled", cell.hinders(1, 2), 4);
    cell.person(false, false);
    cell.shake(1);
    Check.same("pick(1, 2)", cell.pick(1, 2), 0);
    Check.same("none in the arm", cell.hinders(1, 2), -1);
    Check.same("0 for others, though the arm has one", cell.hinders(0, 0), 0);
    Check.same("no change of the count", cell.many(11), 0);
  }

  // A thing of two cells beside a tower: as one of them is in its shadow, half of it is seen.
  private static void promise14HalfSeen() {
    PickCell cell = new PickCell();
    cell.kind(2, 1, 1, 1, 1, 0);
    cell.kind(1, 1, 4, 1, 1, 0);
    cell.kind(1, 1, 1, 1, 1, 0);
    cell.fall(0, 2, 2);
    cell.fall(1, 1, 2);
    cell.fall(2, 1, 2);
    Check.same("one cell is seen", cell.ofThing(0, 7), 1);
    Check.same("half is enough", cell.hinders(0, 1), 0);
    cell.fall(1, 4, 2);
    cell.fall(2, 4, 2);
    Check.same("no cell is seen", cell.ofThing(0, 7), 0);
    Check.same("2 not seen", cell.hinders(0, 1), 2);
    Check.same("2 goes before 3", cell.hinders(0, 2), 2);
    cell.fall(2, 2, 2);
    Check.same("1 goes before 2", cell.hinders(0, 1), 1);
  }

  private static void promise14LiftOfDirectTangles() {
    PickCell cell = new PickCell();
    cell.kind(1, 1, 4, 11, 1, 0);
    for (int x = 0; x < 5; x += 2) {
      cell.fall(0, x, 2);
    }
    cell.fall(0, 5, 5);
    cell.tangle(0, 1);
    cell.tangle(1, 2);
    Check.same("lift 22 for 34", cell.hinders(0, 1), 0);
    Check.same("lift 33 for 34", cell.hinders(1, 1), 0);
    cell.tangle(1, 3);
    Check.same("lift 44 for 34", cell.hinders(1, 1), 4);
    Check.same("lift 22 still", cell.hinders(0, 1), 0);
  }

  private static void promise15Cup() {
    PickCell cell = new PickCell();
    cell.kind(3, 2, 1, 1, 0, 0);
    cell.kind(1, 1, 1, 1, 1, 0);
    cell.fall(0, 0, 0);
    cell.fall(1, 2, 1);
    Check.same("5 cells, though not free", cell.force(0, 0), 32.5);
    Check.same("rough", cell.force(1, 0), 0.0);
    cell.fall(0, 0, 0);
    Check.same("no cells", cell.force(0, 0), 0.0);
    Check.same("6 cells", cell.force(2, 0), 39.0);
    cell.pick(2, 0);
    Check.same("in the arm", cell.force(2, 0), 0.0);
  }

  private static void promise15Fingers() {
    PickCell cell = new PickCell();
    cell.kind(2, 2, 3, 1, 1, 0);
    cell.kind(1, 1, 1, 1, 0, 0);
    cell.fall(0, 2, 2);
    Check.same("rough", cell.force(0, 1), 30.0);
    cell.fall(1, 1, 1);
    cell.fall(1, 4, 4);
    Check.same("corners are not beside it, and smooth ones have half", cell.force(1, 1), 11.0);
    Check.same("30 yet", cell.force(0, 1), 30.0);
    cell.fall(1, 4, 3);
    Check.same("30 by y", cell.force(0, 1), 30.0);
    cell.fall(1, 2, 4);
    Check.same("none", cell.force(0, 1), 0.0);
    Check.same("by x, as y is taken", cell.force(4, 1), 11.0);
    cell.fall(1, 3, 4);
    Check.same("neither by x nor by y", cell.force(4, 1), 0.0);
    raisedOnesNeedRoomAboveTheirGround();
  }

  private static void raisedOnesNeedRoomAboveTheirGround() {
    PickCell cell = new PickCell();
    cell.kind(3, 3, 2, 1, 1, 0);
    cell.kind(1, 1, 2, 1, 2, 0);
    cell.fall(0, 2, 2);
    cell.fall(1, 3, 3);
    Check.same("the floor beside it is not above its GROUND", cell.force(1, 1), 26.0);
    cell.fall(1, 1, 3);
    cell.fall(1, 3, 1);
    Check.same("a stone beside the floor", cell.force(0, 1), 0.0);
    cell.fall(1, 2, 3);
    Check.same("by y, as x is taken", cell.force(1, 1), 26.0);
    cell.fall(1, 3, 4);
    Check.same("no room", cell.force(1, 1), 0.0);
  }

  private static void promise15FingersAtWalls() {
    PickCell cell = new PickCell();
    cell.kind(1, 1, 1, 1, 1, 0);
    cell.kind(3, 1, 1, 1, 1, 0);
    cell.kind(1, 3, 1, 1, 1, 0);
    cell.fall(0, 0, 0);
    cell.fall(0, 5, 5);
    cell.fall(0, 0, 3);
    Check.same("in the corner", cell.force(0, 1), 0.0);
    Check.same("in the far corner", cell.force(1, 1), 0.0);
    Check.same("at a wall in x, free in y", cell.force(2, 1), 22.0);
    cell.fall(1, 3, 0);
    Check.same("at two walls", cell.force(3, 1), 0.0);
    cell.fall(1, 2, 5);
    Check.same("at a wall in y, taken in x", cell.force(4, 1), 0.0);
    cell.fall(2, 5, 2);
    Check.same("beside a thing in y", cell.force(5, 1), 0.0);
  }

  // Towers at all cells around one of 2 by 2: one in x takes the room in x, one more that in y.
  private static void promise15FingersSideBySide() {
    for (int cell = 0; cell < 36; cell++) {
      int x = cell % 6;
      int y = cell / 6;
      boolean isOnIt = (x == 2 || x == 3) && (y == 2 || y == 3);
      boolean isBesideInX = (x == 1 || x == 4) && (y == 2 || y == 3);
      boolean isBesideInY = (y == 1 || y == 4) && (x == 2 || x == 3);
      if (!isOnIt) {
        String place = " and a tower at " + x + ", " + y;
        Check.same("left" + place, fingersBeside(1, 3, x, y), isBesideInY ? 0.0 : 22.0);
        Check.same("right" + place, fingersBeside(4, 2, x, y), isBesideInY ? 0.0 : 22.0);
        Check.same("above" + place, fingersBeside(3, 1, x, y), isBesideInX ? 0.0 : 22.0);
        Check.same("below" + place, fingersBeside(2, 4, x, y), isBesideInX ? 0.0 : 22.0);
      }
    }
  }

  private static double fingersBeside(int x, int y, int otherX, int otherY) {
    PickCell cell = new PickCell();
    cell.kind(2, 2, 1, 1, 1, 0);
    cell.kind(1, 1, 4, 1, 1, 0);
    cell.fall(0, 2, 2);
    cell.fall(1, x, y);
    cell.fall(1, otherX, otherY);
    return cell.force(0, 1);
  }

  private static void promise15Magnet() {
    PickCell cell = new PickCell();
    cell.kind(1, 1, 4, 1, 2, 0);
    cell.kind(1, 1, 4, 1, 1, 0);
    cell.kind(1, 1, 4, 1, 0, 0);
    for (int kind = 0; kind < 3; kind++) {
      cell.fall(kind, kind, kind);
    }
    Check.same("iron", cell.force(0, 2), 36.0);
    Check.same("rough", cell.force(1, 2), 0.0);
    Check.same("smooth", cell.force(2, 2), 0.0);
  }

  private static void promise16Ticks() {
    PickCell cell = new PickCell();
    cell.kind(1, 1, 4, 1, 2, 0);
    cell.kind(1, 1, 1, 1, 2, 0);
    cell.fall(0, 2, 5);
    Check.same("way 5, down 8", cell.ticks(0, 0), 7.5 + 2.0);
    Check.same("other tool", cell.ticks(0, 1), 7.5 + 2.0 + 8.0);
    cell.fall(0, 2, 5);
    cell.fall(0, 2, 5);
    Check.same("TOP 12", cell.ticks(2, 0), 7.5);
    cell.fall(1, 2, 5);
    Check.same("TOP 13", cell.ticks(3, 0), 7.5);
    cell.person(true, true);
    Check.same("slow", cell.ticks(3, 2), 2.0 * 15.5);
    cell.person(false, false);
    Check.same("pick(3, 2)", cell.pick(3, 2), 0);
    Check.same("in the arm", cell.ticks(3, 2), -1.0);
    Check.same("from there", cell.ticks(2, 2), 0.0);
    cell.fall(0, 4, 4);
    Check.same("way 2 back", cell.ticks(4, 0), 3.0 + 2.0 + 8.0);
    cell.back();
    cell.pick(4, 2);
    Check.same("way 2 to less x", cell.ticks(2, 2), 3.0);
  }

  private static void promise17Clock() {
    PickCell cell = withKinds();
    cell.fall(1, 3, 0);
    cell.pick(0, 0);
    Check.same("after a pick", cell.clock(), 4.5 + 2.5);
    cell.box(10);
    cell.put(0);
    Check.same("after a put", cell.clock(), 17.0);
    Check.same("once more", cell.clock(), 17.0);
  }

  private static void promise18Seen() {
    PickCell cell = new PickCell();
    cell.kind(2, 1, 3, 1, 0, 0);
    cell.kind(1, 1, 1, 1, 0, 0);
    cell.kind(1, 1, 4, 1, 0, 0);
    cell.fall(0, 1, 2);
    cell.fall(1, 2, 2);
    Check.same("seen(1, 2)", cell.seen(1, 2), 0);
    Check.same("seen(2, 2)", cell.seen(2, 2), 1);
    Check.same("seen(3, 2)", cell.seen(3, 2), -1);
    Check.same("seen(2, 1)", cell.seen(2, 1), -1);
    cell.fall(1, 3, 2);
    Check.same("3 above is no shadow", cell.seen(3, 2), 2);
    cell.fall(1, 2, 2);
    Check.same("4 above is", cell.seen(3, 2), -1);
    cell.fall(1, 3, 3);
    Check.same("a corner throws none", cell.seen(3, 3), 4);
    Check.same("the tower is seen", cell.seen(2, 2), 3);
  }

  private static void promise18ShadowOverTheWholeSide() {
    int[][] sides = {{1, 2}, {3, 2}, {2, 1}, {2, 3}};
    for (int[] side : sides) {
      PickCell cell = new PickCell();
      cell.kind(1, 1, 1, 1, 0, 0);
      cell.kind(1, 1, 4, 1, 0, 0);
      cell.fall(0, 2, 2);
      cell.fall(1, side[0], side[1]);
      Check.same("4 beside 1", cell.seen(2, 2), 0);
      cell.fall(0, side[0], side[1]);
      Check.same("5 beside 1 at " + side[0] + ", " + side[1], cell.seen(2, 2), -1);
      cell.fall(0, 2, 2);
      Check.same("5 beside 2", cell.seen(2, 2), 3);
    }
  }

  private static void promise18ShadowInAllTheBin() {
    for (int tower = 0; tower < 36; tower++) {
      for (int stone = 0; stone < 36; stone++) {
        int way = Math.abs(tower % 6 - stone % 6) + Math.abs(tower / 6 - stone / 6);
        if (way > 0) {
          PickCell cell = new PickCell();
          cell.kind(1, 1, 1, 1, 0, 0);
          cell.kind(1, 1, 4, 1, 0, 0);
          cell.fall(0, stone % 6, stone / 6);
          cell.fall(1, tower % 6, tower / 6);
          cell.fall(1, tower % 6, tower / 6);
          String text = "stone at " + stone + ", tower at " + tower;
          Check.same(text, cell.seen(stone % 6, stone / 6), way == 1 ? -1 : 0);
          Check.same(text + ", the tower", cell.seen(tower % 6, tower / 6), 2);
          Check.same(text + ", by the stone", cell.ofThing(0, 7), way == 1 ? 0 : 1);
        }
      }
    }
  }

  private static void promise19OfBox() {
    PickCell cell = new PickCell();
    cell.kind(1, 1, 1, 2, 0, 9);
    cell.kind(1, 1, 1, 3, 0, 7);
    cell.fall(0, 0, 0);
    cell.fall(1, 1, 1);
    cell.box(21);
    int[] before = {0, 0, 3, 1, -1, -1};
    int[] first = {1, 3, 2, 1, 1, 7};
    int[] second = {2, 5, 1, 1, 0, 5};
    int[] closed = {2, 5, 1, 0, 0, 5};
    box(cell, before);
    cell.pick(1, 0);
    box(cell, before);
    Check.same("put(0)", cell.put(0), 1);
    box(cell, first);
    cell.pick(0, 0);
    Check.same("put(0) again", cell.put(0), 2);
    box(cell, second);
    cell.close(0);
    box(cell, closed);
  }

  private static void box(PickCell cell, int[] due) {
    for (int what = 0; what <= 5; what++) {
      Check.same("ofBox(0, " + what + ")", cell.ofBox(0, what), due[what]);
    }
  }

  private static void promise20Many() {
    PickCell cell = withKinds();
    cell.fall(1, 4, 3);
    cell.fall(0, 0, 0);
    cell.fall(2, 4, 3);
    cell.box(100);
    cell.box(1);
    cell.close(1);
    int[] told = {3, 3, 3, 2, 0, -1, 0, 0, 0, 0, 0, 0, 4};
    many(cell, told);
    cell.pick(0, 0);
    cell.pick(2, 2);
    int[] picked = {3, 3, 2, 2, 0, 2, 2, 4, 3, 3, 0, 1, 4};
    many(cell, picked);
    cell.put(0);
    int[] put = {3, 3, 2, 2, 1, -1, 2, 4, 3, 3, 0, 1, 4};
    many(cell, put);
  }

  private static void promise20GreatestTop() {
    for (int place = 0; place < 36; place++) {
      PickCell cell = new PickCell();
      cell.kind(1, 1, 3, 1, 0, 0);
      cell.kind(1, 1, 1, 1, 0, 0);
      cell.fall(0, place % 6, place / 6);
      cell.fall(1, 5 - place % 6, place / 6);
      Check.same("the greatest TOP at " + place, cell.many(12), 3);
      Check.same("pick(0, 0)", cell.pick(0, 0), 0);
      Check.same("the other one is left", cell.many(12), 1);
    }
  }

  private static void many(PickCell cell, int[] due) {
    for (int what = 0; what <= 12; what++) {
      Check.same("many(" + what + ")", cell.many(what), due[what]);
    }
  }

  private static void wrongArguments() {
    PickCell cell = withKinds();
    cell.fall(1, 0, 0);
    cell.box(1);
    for (int far : FAR) {
      wrongNumbers(cell, far, far, far);
      wrongWhats(cell, far, far, far, far);
      Check.noSuch(cell, "seen(far, 0)", () -> cell.seen(far, 0));
      Check.noSuch(cell, "seen(0, far)", () -> cell.seen(0, far));
      Check.badArgument(cell, "many(far)", () -> cell.many(far));
    }
    wrongNumbers(cell, 3, 1, 1);
    wrongWhats(cell, 7, 10, 3, 6);
    Check.noSuch(cell, "seen(6, 0)", () -> cell.seen(6, 0));
    Check.noSuch(cell, "seen(0, 6)", () -> cell.seen(0, 6));
    Check.badArgument(cell, "many(13)", () -> cell.many(13));
  }

  private static void wrongNumbers(PickCell cell, int kind, int thing, int box) {
    Check.noSuch(cell, "ofKind(" + kind + ", 99)", () -> cell.ofKind(kind, 99));
    Check.noSuch(cell, "ofThing(" + thing + ", 99)", () -> cell.ofThing(thing, 99));
    Check.noSuch(cell, "hinders(" + thing + ", 99)", () -> cell.hinders(thing, 99));
    Check.noSuch(cell, "force(" + thing + ", 99)", () -> (long) cell.force(thing, 99));
    Check.noSuch(cell, "ticks(" + thing + ", 99)", () -> (long) cell.ticks(thing, 99));
    Check.noSuch(cell, "ofBox(" + box + ", 99)", () -> cell.ofBox(box, 99));
  }

  private static void wrongWhats(PickCell cell, int ofKind, int ofThing, int tool, int ofBox) {
    Check.badArgument(cell, "ofKind(0, " + ofKind + ")", () -> cell.ofKind(0, ofKind));
    Check.badArgument(cell, "ofThing(0, " + ofThing + ")", () -> cell.ofThing(0, ofThing));
    Check.badArgument(cell, "hinders(0, " + tool + ")", () -> cell.hinders(0, tool));
    Check.badArgument(cell, "force(0, " + tool + ")", () -> (long) cell.force(0, tool));
    Check.badArgument(cell, "ticks(0, " + tool + ")", () -> (long) cell.ticks(0, tool));
    Check.badArgument(cell, "ofBox(0, " + ofBox + ")", () -> cell.ofBox(0, ofBox));
  }
}
