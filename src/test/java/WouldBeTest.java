/** Promises 21 to 24: what would be. */
public final class WouldBeTest {
  public static void main(String[] args) {
    promise21Ahead();
    promise22Next();
    promise22NextOfEqualOnes();
    promise23WouldFit();
    promise24Digest();
    promise24DigestOfAll();
    Check.end("WouldBeTest");
  }

  private static void promise21Ahead() {
    PickCell cell = new PickCell();
    cell.kind(2, 1, 1, 1, 0, 0);
    for (int x = 0; x < 5; x++) {
      cell.fall(0, x, 3);
    }
    cell.fall(0, 0, 0);
    Check.same("ahead(0)", cell.ahead(0), 2 + 4 + 8 + 16);
    Check.same("ahead(3)", cell.ahead(3), 16);
    Check.same("ahead(4)", cell.ahead(4), 0);
    Check.same("ahead(5)", cell.ahead(5), 0);
    Check.same("pick(4, 0)", cell.pick(4, 0), 0);
    Check.same("ahead(0) then", cell.ahead(0), 2 + 4 + 8);
    Check.same("ahead(4) in the arm", cell.ahead(4), 0);
    Check.noSuch(cell, "ahead(6)", () -> cell.ahead(6));
    Check.noSuch(cell, "ahead(-1)", () -> cell.ahead(-1));
    chainAgainstTheNumbers();
  }

  // A thing that fell back lies on one with a greater number.
  private static void chainAgainstTheNumbers() {
    PickCell cell = new PickCell();
    cell.kind(2, 1, 1, 1, 0, 0);
    for (int x = 3; x >= 0; x--) {
      cell.fall(0, x, 0);
    }
    Check.same("ahead(0) of a chain", cell.ahead(0), 2 + 4 + 8);
    Check.same("pick(3, 0)", cell.pick(3, 0), 0);
    Check.same("ahead(0) of the rest", cell.ahead(0), 2 + 4);
    Check.same("fall(0, 0, 0) at the end", cell.fall(0, 0, 0), 4);
    Check.same("back()", cell.back(), 4);
    Check.same("ahead(2): 4, and 3 on it", cell.ahead(2), 16 + 8);
    Check.same("ahead(4)", cell.ahead(4), 8);
    Check.same("ahead(3)", cell.ahead(3), 0);
    theFirstOneAboveOthers();
  }

  private static void theFirstOneAboveOthers() {
    PickCell cell = new PickCell();
    cell.kind(1, 1, 1, 1, 0, 0);
    cell.kind(2, 1, 1, 1, 0, 0);
    cell.fall(1, 1, 1);
    Check.same("pick(0, 0)", cell.pick(0, 0), 0);
    cell.fall(0, 2, 1);
    cell.back();
    cell.fall(0, 1, 1);
    Check.same("ahead(1): 0, and 2 on it", cell.ahead(1), 1 + 4);
  }

  private static void promise22Next() {
    PickCell cell = new PickCell();
    cell.kind(1, 1, 1, 5, 0, 0);
    cell.kind(1, 1, 1, 5, 2, 0);
    Check.same("next(0) without things", cell.next(0), -1);
    cell.fall(0, 4, 4);
    cell.fall(1, 1, 1);
    cell.fall(0, 3, 3);
    Check.same("next(0): the nearer one, by the cup", cell.next(0), 3 * 2);
    Check.same("next(1): fingers or magnet cost the same", cell.next(1), 3 * 1 + 1);
    Check.same("pick(1, 2)", cell.pick(1, 2), 0);
    Check.same("next(1), as it is in the arm", cell.next(1), -1);
    Check.same("next(0), as the arm has one", cell.next(0), 3 * 2);
    cell.back();
    Check.same("next(1): the tool is there", cell.next(1), 3 * 1 + 2);
    cell.person(true, false);
    Check.same("next(1), somebody near", cell.next(1), -1);
    cell.person(false, true);
    Check.same("next(0), slow", cell.next(0), 3 * 2);
    Check.noSuch(cell, "next(2)", () -> cell.next(2));
    Check.noSuch(cell, "next(-1)", () -> cell.next(-1));
    cell.tangle(0, 2);
    Check.same("next(0), too heavy for the cup", cell.next(0), 3 * 2 + 1);
  }

  private static void promise22NextOfEqualOnes() {
    PickCell cell = new PickCell();
    cell.kind(1, 1, 1, 5, 0, 0);
    cell.fall(0, 2, 0);
    cell.fall(0, 0, 2);
    cell.fall(0, 2, 2);
    Check.same("the smallest of three", cell.next(0), 0);
    cell.fall(0, 2, 0);
    Check.same("less to go down", cell.next(0), 9);
    Check.same("pick(3, 0)", cell.pick(3, 0), 0);
    Check.same("from there", cell.next(0), 0);
  }

  private static void promise23WouldFit() {
    PickCell cell = new PickCell();
    cell.kind(1, 1, 1, 3, 0, 2);
    cell.kind(1, 1, 1, 2, 0, 9);
    cell.fall(0, 0, 0);
    cell.fall(0, 2, 2);
    cell.fall(1, 4, 4);
    cell.box(12);
    cell.box(1);
    Check.same("wouldFit(0, 0)", cell.wouldFit(0, 0), 0);
    Check.same("wouldFit(2, 1) without need", cell.wouldFit(2, 1), -2);
    Check.same("pick(0, 0)", cell.pick(0, 0), 0);
    Check.same("wouldFit(0, 0) in the arm", cell.wouldFit(0, 0), 0);
    Check.same("put(0)", cell.put(0), 1);
    Check.same("wouldFit(1, 0): 3 on 2", cell.wouldFit(1, 0), -3);
    Check.same("wouldFit(2, 0): 2 on 2", cell.wouldFit(2, 0), 0);
    Check.same("wouldFit(0, 0), itself in it", cell.wouldFit(0, 0), -3);
    Check.same("wouldFit(0, 1), in another one", cell.wouldFit(0, 1), 0);
    cell.close(0);
    Check.same("wouldFit(2, 0), closed", cell.wouldFit(2, 0), -1);
    Check.noSuch(cell, "wouldFit(3, 0)", () -> cell.wouldFit(3, 0));
    Check.noSuch(cell, "wouldFit(0, 2)", () -> cell.wouldFit(0, 2));
    Check.noSuch(cell, "wouldFit(-1, 0)", () -> cell.wouldFit(-1, 0));
    Check.noSuch(cell, "wouldFit(0, -1)", () -> cell.wouldFit(0, -1));
    Check.same("the clock counts only what was done", cell.clock(), 2.75 + 10.0);
  }

  private static void promise24Digest() {
    PickCell empty = new PickCell();
    int[] asNew = {0, 0, 0, 0, 0, -1, 0, 0, 0, 0, 0, 0, 0, 0};
    Check.same("digest() of a new one", empty.digest(), chain(9609L, asNew));
    PickCell cell = new PickCell();
    cell.kind(1, 1, 2, 3, 0, 4);
    cell.fall(0, 1, 0);
    cell.box(2);
    // many() 0 to 12, the clock, the kind, the thing with hinders() and ahead(), the box.
    int[] due = {
      1, 1, 1, 1, 0, -1, 0, 0, 0, 0, 0, 0, 2, 0,
      1, 0,
      0, 1, 0, 0, 2, 0, 0, 1, 0, 0, 0, 0, 3, 0,
      0, 0, 2, 1, -1, -1, 0,
    };
    Check.same("digest() of one thing", cell.digest(), chain(9609L, due));
    cell.pick(0, 0);
    // The clock is 1.5 + 10 * 0.25 = 4.0, so 16.
    int[] picked = {
      1, 1, 0, 1, 0, 0, 0, 1, 0, 3, 0, 0, 0, 16,
      0, -1,
      0, 1, 0, 0, 2, 1, 0, 0, 0, 0, -1, -1, -1, 0,
      0, 0, 2, 1, -1, -1, 0,
    };
    Check.same("digest() with the thing in the arm", cell.digest(), chain(9609L, picked));
  }

  // As the document tells it, of a cell with something of everything.
  private static void promise24DigestOfAll() {
    PickCell cell = new PickCell();
    cell.kind(2, 1, 1, 2, 0, 1);
    cell.kind(1, 1, 2, 3, 2, 9);
    for (int x = 0; x < 4; x++) {
      cell.fall(0, x, 2);
    }
    cell.fall(1, 5, 5);
    cell.fall(0, 0, 5);
    cell.tangle(0, 1);
    cell.box(22);
    cell.box(10);
    cell.pick(5, 0);
    cell.put(0);
    cell.box(1);
    cell.close(2);
    cell.pick(3, 0);
    Check.same("ahead(0)", cell.ahead(0), 2 + 4);
    Check.same("wouldFit(0, 0)", cell.wouldFit(0, 0), -3);
    Check.same("wouldFit(0, 1)", cell.wouldFit(0, 1), -2);
    Check.same("wouldFit(0, 2)", cell.wouldFit(0, 2), -1);
    Check.same("digest()", cell.digest(), digestOf(cell));
  }

  private static long digestOf(PickCell cell) {
    long d = 9609L;
    for (int what = 0; what <= 12; what++) {
      d = d * 31 + cell.many(what);
    }
    d = d * 31 + Math.round(cell.clock() * 4);
    for (int kind = 0; kind < cell.many(0); kind++) {
      d = d * 31 + cell.ofKind(kind, 6);
      d = d * 31 + cell.next(kind);
    }
    for (int thing = 0; thing < cell.many(1); thing++) {
      for (int what = 0; what <= 9; what++) {
        d = d * 31 + cell.ofThing(thing, what);
      }
      for (int tool = 0; tool <= 2; tool++) {
        d = d * 31 + cell.hinders(thing, tool);
      }
      d = d * 31 + cell.ahead(thing);
    }
    for (int box = 0; box < cell.many(3); box++) {
      for (int what = 0; what <= 5; what++) {
        d = d * 31 + cell.ofBox(box, what);
      }
      for (int thing = 0; thing < cell.many(1); thing++) {
        d = d * 31 + cell.wouldFit(thing, box);
      }
    }
    return d;
  }

  private static long chain(long start, int[] values) {
    long d = start;
    for (int value : values) {
      d = d * 31 + value;
    }
    return d;
  }
}
