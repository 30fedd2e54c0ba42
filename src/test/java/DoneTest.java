/** Promises 8 to 11: what is done. */
public final class DoneTest {
  public static void main(String[] args) {
    promise8Taken();
    promise8Hindered();
    promise8Slips();
    promise8GripIsRoundedToEven();
    promise8TangledComeOut();
    promise8TangledComeOutByNumbers();
    promise8OnlyFreeOnesComeOut();
    promise8WrongPicks();
    promise9Put();
    promise9Crush();
    promise9WrongPuts();
    promise10Back();
    promise11Close();
    Check.end("DoneTest");
  }

  private static void promise8Taken() {
    PickCell cell = new PickCell();
    cell.kind(2, 2, 3, 10, 0, 0);
    cell.kind(1, 1, 2, 4, 2, 0);
    cell.fall(0, 2, 4);
    cell.fall(1, 5, 0);
    Check.same("pick(0, 0)", cell.pick(0, 0), 0);
    Check.same("CLOCK: way 4, down 9", cell.clock(), 6.0 + 2.25);
    Check.same("the arm has it", cell.many(5), 0);
    Check.same("x of the arm", cell.many(7), 2);
    Check.same("y of the arm", cell.many(8), 4);
    Check.same("the draw", cell.many(9), 3);
    Check.same("where it is", cell.ofThing(0, 5), 1);
    Check.same("seen no more", cell.seen(2, 4), -1);
    Check.same("in the bin", cell.many(2), 1);
    cell.back();
    cell.person(false, true);
    Check.same("pick(1, 2)", cell.pick(1, 2), 0);
    Check.same("CLOCK: way 4, down 10, other tool, slow", cell.clock(), 8.25 + 2.0 * (6.0 + 2.5 + 8.0));
    Check.same("the tool", cell.many(6), 2);
    Check.same("the draw again", cell.many(9), 2);
  }

  private static void promise8Hindered() {
    PickCell cell = new PickCell();
    cell.kind(1, 1, 4, 9, 0, 0);
    cell.fall(0, 3, 1);
    Check.same("pick(0, 0), too weak", cell.pick(0, 0), 4);
    Check.same("CLOCK", cell.clock(), 4.5 + 2.0);
    Check.same("pick(0, 2), no iron", cell.pick(0, 2), 3);
    Check.same("CLOCK, other tool", cell.clock(), 6.5 + 2.0 + 8.0);
    Check.same("tool of the arm", cell.many(6), 2);
    Check.same("x of the arm", cell.many(7), 3);
    Check.same("y of the arm", cell.many(8), 1);
    Check.same("hindered picks", cell.many(11), 2);
    Check.same("no draw", cell.many(9), 0);
    Check.same("the arm has none", cell.many(5), -1);
    cell.person(true, false);
    Check.same("pick(0, 1), somebody near", cell.pick(0, 1), 5);
    cell.fall(0, 3, 1);
    Check.same("pick(0, 1), not free", cell.pick(0, 1), 1);
    Check.same("hindered picks then", cell.many(11), 4);
    Check.same("slips", cell.many(10), 0);
  }

  // Force 6.5 of a weight of 6 grips 4.33, so 4; the draws are 3, 2, 5.
  private static void promise8Slips() {
    PickCell cell = new PickCell();
    cell.kind(1, 1, 1, 6, 0, 0);
    cell.kind(1, 1, 1, 1, 1, 0);
    cell.fall(0, 1, 1);
    cell.fall(0, 1, 3);
    Check.same("pick with draw 3", cell.pick(0, 0), 0);
    cell.back();
    Check.same("pick with draw 2", cell.pick(0, 0), 0);
    cell.back();
    Check.same("pick with draw 5", cell.pick(0, 0), -2);
    Check.same("the draw", cell.many(9), 5);
    Check.same("slips", cell.many(10), 1);
    Check.same("its slips", cell.ofThing(0, 9), 1);
    Check.same("slips of the other", cell.ofThing(1, 9), 0);
    Check.same("it stays", cell.ofThing(0, 5), 0);
    Check.same("hindered ones", cell.many(11), 0);
    Check.same("arm's x", cell.many(7), 1);
    Check.same("clock", cell.clock(), 1.5 + 3 * 11 * 0.25);
    Check.same("pick with draw 4", cell.pick(1, 0), 0);
    slipEndsTangles();
  }

  private static void slipEndsTangles() {
    PickCell cell = new PickCell();
    cell.kind(2, 1, 1, 6, 0, 0);
    cell.kind(1, 1, 1, 1, 0, 0);
    cell.fall(0, 0, 0);
    cell.fall(0, 0, 2);
    cell.fall(1, 0, 4);
    cell.pick(2, 0);
    cell.back();
    cell.pick(2, 0);
    cell.back();
    cell.tangle(0, 1);
    cell.tangle(1, 2);
    // Force 13 for a lift of 12 grips 4; the draw is 5.
    Check.same("pick(0, 0) of tangled ones", cell.pick(0, 0), -2);
    Check.same("its tangles are gone", cell.ofThing(0, 8), 0);
    Check.same("others stay", cell.ofThing(1, 8), 4);
    Check.same("nothing came out", cell.ofThing(1, 2), 2);
  }

  // A margin of 1.125 gives 4.5, which becomes 4; one of 1.375 gives 5.5, which becomes 6.
  private static void promise8GripIsRoundedToEven() {
    PickCell cell = new PickCell();
    cell.kind(1, 1, 1, 8, 2, 0);
    cell.kind(1, 1, 1, 1, 2, 0);
    cell.fall(0, 1, 1);
    cell.fall(1, 3, 3);
    drawTo(cell, 1, 2);
    Check.same("draw 5 above grip 4.5", cell.pick(0, 2), -2);
    PickCell other = new PickCell();
    other.kind(1, 1, 1, 16, 1, 0);
    other.kind(1, 1, 1, 1, 2, 0);
    other.fall(0, 1, 1);
    other.fall(1, 3, 3);
    drawTo(other, 1, 7);
    Check.same("draw 6 and grip 5.5", other.pick(0, 1), 0);
    other.back();
    drawTo(other, 1, 4);
    Check.same("draw 7 and grip 6", other.pick(0, 1), -2);
    gripsBesideTheHalf();
    PickCell strong = new PickCell();
    strong.kind(1, 1, 1, 1, 2, 0);
    strong.fall(0, 1, 1);
    drawTo(strong, 0, 4);
    Check.same("draw 7 and grip 7 at most", strong.pick(0, 2), 0);
    Check.same("the draw is 7", strong.many(9), 7);
  }

  // Force 22 of a weight of 19 gives 4.63, which becomes 5; of a weight of 20, 4.4 and 4.
  private static void gripsBesideTheHalf() {
    PickCell cell = new PickCell();
    cell.kind(1, 1, 1, 1, 2, 0);
    cell.kind(1, 1, 1, 19, 1, 0);
    cell.kind(1, 1, 1, 20, 1, 0);
    for (int kind = 0; kind < 3; kind++) {
      cell.fall(kind, 2 * kind, 2);
    }
    drawTo(cell, 0, 2);
    Check.same("draw 5 and grip 4.63", cell.pick(1, 1), 0);
    cell.back();
    drawTo(cell, 0, 2);
    Check.same("draw 5 above grip 4.4", cell.pick(2, 1), -2);
  }

  private static void drawTo(PickCell cell, int thing, int draw) {
    for (int i = 0; i < 8 && cell.many(9) != draw; i++) {
      Check.same("a light pick", cell.pick(thing, 2), 0);
      cell.back();
    }
    Check.same("the draw", cell.many(9), draw);
  }

  private static void promise8TangledComeOut() {
    PickCell cell = new PickCell();
    cell.kind(1, 1, 2, 1, 0, 0);
    cell.kind(2, 1, 1, 1, 0, 0);
    cell.fall(0, 5, 3);
    cell.fall(1, 0, 0);
    cell.fall(0, 2, 0);
    cell.tangle(0, 1);
    cell.tangle(0, 2);
    cell.tangle(1, 2);
    Check.same("pick(0, 0)", cell.pick(0, 0), 0);
    Check.same("1 does not fit there: x", cell.ofThing(1, 1), 0);
    Check.same("1 does not fit there: y", cell.ofThing(1, 2), 0);
    Check.same("2 falls there: x", cell.ofThing(2, 1), 5);
    Check.same("2 falls there: y", cell.ofThing(2, 2), 3);
    Check.same("its GROUND", cell.ofThing(2, 3), 0);
    Check.same("seen there", cell.seen(5, 3), 2);
    Check.same("tangles of 0", cell.ofThing(0, 8), 0);
    Check.same("tangles of 1", cell.ofThing(1, 8), 4);
    Check.same("tangles of 2", cell.ofThing(2, 8), 2);
    Check.same("the arm has only that", cell.many(5), 0);
    Check.same("back() on 2", cell.back(), 2);
    Check.same("0 lies on 2", cell.ofThing(2, 6), 1);
  }

  private static void promise8TangledComeOutByNumbers() {
    PickCell cell = new PickCell();
    cell.kind(1, 1, 2, 1, 0, 0);
    cell.fall(0, 4, 4);
    cell.fall(0, 0, 0);
    cell.fall(0, 2, 0);
    cell.fall(0, 0, 2);
    cell.tangle(2, 3);
    cell.tangle(2, 1);
    cell.tangle(2, 0);
    Check.same("pick(2, 0)", cell.pick(2, 0), 0);
    Check.same("GROUND of 0", cell.ofThing(0, 3), 0);
    Check.same("GROUND of 1", cell.ofThing(1, 3), 2);
    Check.same("GROUND of 3", cell.ofThing(3, 3), 4);
    Check.same("on 0", cell.ofThing(0, 6), 2 + 8);
    Check.same("ahead of 0", cell.ahead(0), 2 + 8);
    Check.same("nothing left behind", cell.seen(4, 4), -1);
    oneFallsAtItsOwnCornerOnAnother();
  }

  // 1 does not fit at the corner of 2, which lay on it; 0 falls there first, so beneath 1.
  private static void oneFallsAtItsOwnCornerOnAnother() {
    PickCell cell = new PickCell();
    cell.kind(1, 1, 1, 1, 0, 0);
    cell.kind(2, 1, 1, 1, 0, 0);
    cell.fall(0, 0, 0);
    cell.fall(1, 4, 5);
    cell.fall(0, 5, 5);
    cell.tangle(2, 0);
    cell.tangle(2, 1);
    Check.same("pick(2, 0) on 1", cell.pick(2, 0), 0);
    Check.same("GROUND of 0", cell.ofThing(0, 3), 0);
    Check.same("x of 1", cell.ofThing(1, 1), 4);
    Check.same("GROUND of 1", cell.ofThing(1, 3), 1);
    Check.same("1 lies on 0", cell.ofThing(0, 6), 2);
  }

  // 2 lies on 1, 0 lies beneath the one that is picked (4) and comes free just by that.
  private static void promise8OnlyFreeOnesComeOut() {
    PickCell cell = new PickCell();
    cell.kind(1, 1, 1, 1, 0, 0);
    cell.fall(0, 3, 3);
    cell.fall(0, 0, 0);
    cell.fall(0, 0, 0);
    cell.fall(0, 5, 0);
    cell.fall(0, 3, 3);
    cell.tangle(4, 0);
    cell.tangle(4, 1);
    cell.tangle(4, 2);
    cell.tangle(2, 3);
    Check.same("pick(4, 0)", cell.pick(4, 0), 0);
    Check.same("0 came out and fell again", cell.ofThing(0, 3), 0);
    Check.same("1 was not free (as 2 comes out with it): x", cell.ofThing(1, 1), 0);
    Check.same("1: y", cell.ofThing(1, 2), 0);
    Check.same("2 fell on 0: x", cell.ofThing(2, 1), 3);
    Check.same("2 fell on 0: GROUND", cell.ofThing(2, 3), 1);
    Check.same("3 is tangled with 2 only: x", cell.ofThing(3, 1), 5);
    Check.same("1 lies bare", cell.ofThing(1, 6), 0);
    Check.same("tangles of 2", cell.ofThing(2, 8), 8);
  }

  private static void promise8WrongPicks() {
    PickCell cell = new PickCell();
    Check.noSuch(cell, "pick(0, 9) without things", () -> cell.pick(0, 9));
    cell.kind(1, 1, 1, 1, 0, 0);
    cell.fall(0, 0, 0);
    cell.fall(0, 2, 0);
    Check.noSuch(cell, "pick(2, 0)", () -> cell.pick(2, 0));
    Check.noSuch(cell, "pick(-1, 0)", () -> cell.pick(-1, 0));
    Check.badArgument(cell, "pick(0, 3)", () -> cell.pick(0, 3));
    Check.badArgument(cell, "pick(0, -1)", () -> cell.pick(0, -1));
    cell.pick(0, 0);
    Check.badState(cell, "pick(0, 0) of the arm's", () -> cell.pick(0, 0));
    Check.badState(cell, "pick(1, 0) as the arm has one", () -> cell.pick(1, 0));
    Check.badArgument(cell, "pick(1, 3) as the arm has one", () -> cell.pick(1, 3));
    cell.box(9);
    cell.put(0);
    Check.badState(cell, "pick(0, 0) from a box", () -> cell.pick(0, 0));
    Check.same("pick(1, 0)", cell.pick(1, 0), 0);
  }

  private static void promise9Put() {
    PickCell cell = new PickCell();
    cell.kind(1, 1, 1, 1, 0, 20);
    cell.kind(1, 1, 1, 2, 0, 20);
    for (int x = 0; x < 4; x++) {
      cell.fall(x % 2, x, x);
    }
    cell.box(12);
    cell.box(20);
    cell.pick(0, 0);
    double before = cell.clock();
    Check.same("put(1) without need", cell.put(1), -2);
    Check.same("CLOCK", cell.clock(), before + 10.0);
    Check.same("the arm has it still", cell.many(5), 0);
    cell.person(false, true);
    Check.same("put(0)", cell.put(0), 1);
    Check.same("CLOCK, slow", cell.clock(), before + 30.0);
    cell.person(false, false);
    Check.same("the arm has none", cell.many(5), -1);
    Check.same("where it is", cell.ofThing(0, 5), 2);
    Check.same("arm stays: x", cell.many(7), 0);
    cell.pick(1, 0);
    Check.same("put(0), second", cell.put(0), 2);
    cell.pick(3, 0);
    Check.same("put(0), one of that kind is in", cell.put(0), -2);
    Check.same("put(1)", cell.put(1), 1);
    Check.same("in the box 1", cell.ofThing(3, 5), 3);
    cell.pick(2, 0);
    Check.same("put(0), third", cell.put(0), 3);
    cell.fall(0, 5, 5);
    cell.pick(4, 0);
    Check.same("put(0), two of that kind are in, the first one too", cell.put(0), -2);
    Check.same("the box 0 is full", cell.many(4), 1);
  }

  // The bottom bears 5: 2 and 3 just go, 1 more would not; the second one bears 3.
  private static void promise9Crush() {
    PickCell cell = new PickCell();
    cell.kind(1, 1, 1, 4, 0, 5);
    cell.kind(1, 1, 1, 2, 0, 3);
    cell.kind(1, 1, 1, 3, 0, 200);
    cell.kind(1, 1, 1, 4, 0, 200);
    for (int kind = 0; kind < 4; kind++) {
      cell.fall(kind, kind, 0);
    }
    cell.fall(1, 5, 5);
    cell.box(1121);
    putInto(cell, 0, 0, 1);
    putInto(cell, 1, 0, 2);
    putInto(cell, 3, 0, -3);
    cell.back();
    putInto(cell, 2, 0, 3);
    Check.same("the bottom bears nothing more", cell.ofBox(0, 5), 0);
    putInto(cell, 4, 0, -3);
    cell.back();
    cell.box(10);
    cell.box(1010);
    putInto(cell, 4, 2, 1);
    putInto(cell, 3, 2, -3);
    Check.same("need is asked first", cell.put(1), -2);
  }

  private static void putInto(PickCell cell, int thing, int box, int due) {
    for (int tries = 0; tries < 8 && cell.many(5) != thing; tries++) {
      cell.pick(thing, 0);
    }
    Check.same("put(" + box + ") of " + thing, cell.put(box), due);
  }

  private static void promise9WrongPuts() {
    PickCell cell = new PickCell();
    Check.noSuch(cell, "put(0) without boxes", () -> cell.put(0));
    cell.kind(1, 1, 1, 1, 0, 0);
    cell.fall(0, 0, 0);
    cell.box(1);
    Check.badState(cell, "put(0) with nothing", () -> cell.put(0));
    Check.noSuch(cell, "put(1) with nothing", () -> cell.put(1));
    Check.noSuch(cell, "put(-1) with nothing", () -> cell.put(-1));
    cell.pick(0, 0);
    cell.close(0);
    Check.badState(cell, "put(0) into a closed one", () -> cell.put(0));
    cell.box(1);
    Check.same("put(1)", cell.put(1), 1);
    Check.badState(cell, "put(1) once more", () -> cell.put(1));
  }

  private static void promise10Back() {
    PickCell cell = new PickCell();
    Check.badState(cell, "back() with nothing", cell::back);
    cell.kind(2, 1, 2, 1, 0, 0);
    cell.fall(0, 3, 4);
    cell.pick(0, 0);
    cell.fall(0, 2, 4);
    double before = cell.clock();
    Check.same("back()", cell.back(), 2);
    Check.same("no ticks", cell.clock(), before);
    Check.same("its x", cell.ofThing(0, 1), 3);
    Check.same("its y", cell.ofThing(0, 2), 4);
    Check.same("its TOP", cell.ofThing(0, 4), 4);
    Check.same("in the bin", cell.ofThing(0, 5), 0);
    Check.same("it fell later", cell.ofThing(1, 6), 1);
    Check.same("the arm has none", cell.many(5), -1);
    Check.badState(cell, "back() again", cell::back);
  }

  private static void promise11Close() {
    PickCell cell = new PickCell();
    Check.noSuch(cell, "close(0) without boxes", () -> cell.close(0));
    cell.kind(1, 1, 1, 1, 0, 9);
    cell.kind(1, 1, 1, 1, 0, 9);
    cell.fall(0, 0, 0);
    cell.box(31);
    cell.box(1);
    cell.pick(0, 0);
    Check.same("put(0)", cell.put(0), 1);
    Check.same("close(0)", cell.close(0), 3);
    Check.same("it is not open", cell.ofBox(0, 3), 0);
    Check.same("the other one is", cell.ofBox(1, 3), 1);
    Check.badState(cell, "close(0) again", () -> cell.close(0));
    Check.noSuch(cell, "close(2)", () -> cell.close(2));
    Check.noSuch(cell, "close(-1)", () -> cell.close(-1));
    Check.same("close(1)", cell.close(1), 1);
    fullOneCloses();
  }

  private static void fullOneCloses() {
    PickCell cell = new PickCell();
    cell.kind(1, 1, 1, 1, 0, 9);
    cell.fall(0, 0, 0);
    cell.box(1);
    cell.pick(0, 0);
    cell.put(0);
    Check.same("close(0) of a full one", cell.close(0), 0);
    Check.same("full, though closed", cell.many(4), 1);
  }
}
