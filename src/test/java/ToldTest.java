/** Promises 1 to 7: what is told. */
public final class ToldTest {
  public static void main(String[] args) {
    promise1NewObject();
    promise2Kind();
    promise2WrongKinds();
    promise3Fall();
    promise3WrongFalls();
    promise4Tangle();
    promise5Shake();
    promise6Person();
    promise7Box();
    promise7WrongBoxes();
    Check.end("ToldTest");
  }

  private static void promise1NewObject() {
    PickCell cell = new PickCell();
    int[] due = {0, 0, 0, 0, 0, -1, 0, 0, 0, 0, 0, 0, 0};
    for (int what = 0; what <= 12; what++) {
      Check.same("new: many(" + what + ")", cell.many(what), due[what]);
    }
    Check.same("new: clock()", cell.clock(), 0.0);
    Check.same("new: seen(0, 0)", cell.seen(0, 0), -1);
    Check.same("new: seen(5, 5)", cell.seen(5, 5), -1);
    Check.same("new: person(false, false)", cell.person(false, false), false);
    Check.noSuch(cell, "new: ofKind(0, 0)", () -> cell.ofKind(0, 0));
  }

  private static void promise2Kind() {
    PickCell cell = new PickCell();
    Check.same("kind(1, 1, 1, 1, 0, 0)", cell.kind(1, 1, 1, 1, 0, 0), 0);
    Check.same("kind(3, 3, 4, 60, 2, 200)", cell.kind(3, 3, 4, 60, 2, 200), 1);
    Check.same("kind(2, 3, 4, 5, 1, 6)", cell.kind(2, 3, 4, 5, 1, 6), 2);
    Check.same("kind(2, 3, 4, 5, 1, 6) again", cell.kind(2, 3, 4, 5, 1, 6), 3);
    Check.same("kind(1, 2, 1, 2, 1, 2)", cell.kind(1, 2, 1, 2, 1, 2), 4);
    Check.same("many(0)", cell.many(0), 5);
    Check.same("STRENGTH of 1", cell.ofKind(1, 5), 200);
    Check.badState(cell, "a sixth kind", () -> cell.kind(1, 1, 1, 1, 0, 0));
    Check.badArgument(cell, "a sixth kind, and wrong", () -> cell.kind(4, 1, 1, 1, 0, 0));
  }

  private static void promise2WrongKinds() {
    PickCell cell = new PickCell();
    int[] least = {1, 1, 1, 1, 0, 0};
    int[] most = {3, 3, 4, 60, 2, 200};
    for (int place = 0; place < 6; place++) {
      int[] wrongs = {
        least[place] - 1, most[place] + 1, -1, Integer.MIN_VALUE, Integer.MAX_VALUE
      };
      for (int wrong : wrongs) {
        int[] a = least.clone();
        a[place] = wrong;
        Check.badArgument(cell, "kind() with " + wrong + " at " + place,
            () -> cell.kind(a[0], a[1], a[2], a[3], a[4], a[5]));
      }
    }
    Check.same("many(0) after wrong ones", cell.many(0), 0);
  }

  private static void promise3Fall() {
    PickCell cell = new PickCell();
    cell.kind(2, 3, 2, 5, 1, 9);
    cell.kind(1, 1, 4, 5, 1, 9);
    Check.same("fall(0, 4, 3)", cell.fall(0, 4, 3), 0);
    Check.same("fall(1, 5, 5)", cell.fall(1, 5, 5), 1);
    Check.same("fall(0, 4, 3) again", cell.fall(0, 4, 3), 2);
    Check.same("fall(1, 3, 3)", cell.fall(1, 3, 3), 3);
    Check.same("GROUND of 0", cell.ofThing(0, 3), 0);
    Check.same("TOP of 0", cell.ofThing(0, 4), 2);
    Check.same("GROUND of 1", cell.ofThing(1, 3), 2);
    Check.same("GROUND of 2, of its highest cell", cell.ofThing(2, 3), 6);
    Check.same("TOP of 2", cell.ofThing(2, 4), 8);
    Check.same("GROUND of 3, beside them", cell.ofThing(3, 3), 0);
    Check.same("x of 0", cell.ofThing(0, 1), 4);
    Check.same("y of 0", cell.ofThing(0, 2), 3);
    Check.same("it is in the bin", cell.ofThing(3, 5), 0);
    groundStaysAfterTaking();
  }

  private static void groundStaysAfterTaking() {
    PickCell cell = new PickCell();
    cell.kind(1, 1, 3, 1, 0, 200);
    cell.kind(2, 1, 1, 1, 1, 200);
    cell.fall(0, 2, 2);
    cell.fall(1, 1, 2);
    cell.fall(0, 1, 2);
    Check.same("pick(2, 0)", cell.pick(2, 0), 0);
    Check.same("back()", cell.back(), 4);
    Check.same("pick(2, 0) again", cell.pick(2, 0), 0);
    cell.box(1);
    Check.same("put(0)", cell.put(0), 1);
    Check.same("pick(1, 1)", cell.pick(1, 1), 0);
    Check.same("GROUND stays in the arm", cell.ofThing(1, 3), 3);
    Check.same("GROUND on the first one alone", cell.fall(1, 1, 2), 3);
    Check.same("GROUND of 3", cell.ofThing(3, 3), 3);
    Check.same("back() on both", cell.back(), 4);
  }

  private static void promise3WrongFalls() {
    PickCell cell = new PickCell();
    Check.noSuch(cell, "fall(0, 9, 9) without kinds", () -> cell.fall(0, 9, 9));
    cell.kind(2, 3, 1, 5, 1, 9);
    int[][] wrongs = {
      {5, 0}, {0, 4}, {-1, 0}, {0, -1}, {6, 0}, {0, 6},
      {Integer.MAX_VALUE, 0}, {0, Integer.MAX_VALUE}, {Integer.MIN_VALUE, 0}, {0, Integer.MIN_VALUE},
    };
    for (int[] a : wrongs) {
      Check.badArgument(cell, "fall(0, " + a[0] + ", " + a[1] + ")", () -> cell.fall(0, a[0], a[1]));
    }
    Check.noSuch(cell, "fall(1, 0, 0)", () -> cell.fall(1, 0, 0));
    Check.noSuch(cell, "fall(-1, 0, 0)", () -> cell.fall(-1, 0, 0));
    for (int thing = 0; thing < 12; thing++) {
      Check.same("fall(0, 4, 3) number " + thing, cell.fall(0, 4, 3), thing);
    }
    Check.badState(cell, "a 13th thing", () -> cell.fall(0, 0, 0));
    Check.badArgument(cell, "a 13th thing outside", () -> cell.fall(0, 5, 0));
    Check.noSuch(cell, "a 13th thing of no kind", () -> cell.fall(1, 0, 0));
  }

  private static void promise4Tangle() {
    PickCell cell = new PickCell();
    cell.kind(1, 1, 1, 1, 0, 0);
    for (int x = 0; x < 4; x++) {
      cell.fall(0, x, 0);
    }
    Check.same("tangle(0, 1)", cell.tangle(0, 1), 1);
    Check.same("tangle(1, 0) again", cell.tangle(1, 0), 1);
    Check.same("tangle(2, 0)", cell.tangle(2, 0), 1);
    Check.same("tangle(0, 3)", cell.tangle(0, 3), 3);
    Check.same("those of 0", cell.ofThing(0, 8), 2 + 4 + 8);
    Check.same("those of 1", cell.ofThing(1, 8), 1);
    Check.badArgument(cell, "tangle(2, 2)", () -> cell.tangle(2, 2));
    Check.noSuch(cell, "tangle(4, 4)", () -> cell.tangle(4, 4));
    Check.noSuch(cell, "tangle(0, -1)", () -> cell.tangle(0, -1));
    Check.noSuch(cell, "tangle(4, 0)", () -> cell.tangle(4, 0));
    Check.same("pick(1, 0)", cell.pick(1, 0), 0);
    Check.badState(cell, "tangle(1, 0) of the arm's", () -> cell.tangle(1, 0));
    Check.badState(cell, "tangle(0, 1) of the arm's", () -> cell.tangle(0, 1));
    Check.badArgument(cell, "tangle(1, 1) of the arm's", () -> cell.tangle(1, 1));
  }

  private static void promise5Shake() {
    PickCell cell = new PickCell();
    cell.kind(1, 1, 1, 1, 0, 0);
    for (int x = 0; x < 3; x++) {
      cell.fall(0, x, 0);
    }
    cell.tangle(0, 1);
    cell.tangle(0, 2);
    cell.tangle(1, 2);
    Check.same("shake(0)", cell.shake(0), 2);
    Check.same("shake(0) again", cell.shake(0), 0);
    Check.same("those of 0", cell.ofThing(0, 8), 0);
    Check.same("those of 1", cell.ofThing(1, 8), 4);
    Check.same("those of 2", cell.ofThing(2, 8), 2);
    cell.tangle(0, 2);
    Check.same("shake(2)", cell.shake(2), 2);
    Check.same("those of 0 then", cell.ofThing(0, 8), 0);
    Check.same("those of 1 then", cell.ofThing(1, 8), 0);
    Check.noSuch(cell, "shake(3)", () -> cell.shake(3));
    Check.noSuch(cell, "shake(-1)", () -> cell.shake(-1));
    Check.same("pick(0, 0)", cell.pick(0, 0), 0);
    Check.same("shake(0) in the arm", cell.shake(0), 0);
  }

  private static void promise6Person() {
    PickCell cell = new PickCell();
    cell.kind(1, 1, 1, 1, 0, 0);
    cell.fall(0, 1, 0);
    Check.same("person(true, false)", cell.person(true, false), false);
    Check.same("hinders near", cell.hinders(0, 0), 5);
    Check.same("ticks near", cell.ticks(0, 0), 1.5 + 11 * 0.25);
    Check.same("person(false, true)", cell.person(false, true), true);
    Check.same("hinders far", cell.hinders(0, 0), 0);
    Check.same("ticks slow", cell.ticks(0, 0), 2.0 * (1.5 + 11 * 0.25));
    Check.same("person(true, true)", cell.person(true, true), false);
    Check.same("person(true, false) again", cell.person(true, false), true);
    Check.same("ticks as before", cell.ticks(0, 0), 1.5 + 11 * 0.25);
  }

  private static void promise7Box() {
    PickCell cell = new PickCell();
    for (int kind = 0; kind < 5; kind++) {
      cell.kind(1, 1, 1, 1, 0, 0);
    }
    Check.same("box(99999)", cell.box(99999), 0);
    Check.same("box(1)", cell.box(1), 1);
    Check.same("box(20304)", cell.box(20304), 2);
    Check.same("box(10000)", cell.box(10000), 3);
    Check.same("lacking in 0", cell.ofBox(0, 2), 45);
    Check.same("lacking in 2", cell.ofBox(2, 2), 9);
    Check.same("2 is open", cell.ofBox(2, 3), 1);
    Check.badState(cell, "a fifth box", () -> cell.box(1));
    Check.badArgument(cell, "a fifth box for nothing", () -> cell.box(0));
    Check.badArgument(cell, "box(100000) of 5 kinds", () -> cell.box(100000));
    for (int kind = 0; kind < 5; kind++) {
      cell.fall(kind, kind, 0);
      Check.same("wouldFit in 2, kind " + kind, cell.wouldFit(kind, 2), kind % 2 == 0 ? 0 : -2);
    }
    cell.close(0);
    Check.badState(cell, "a fifth box, one closed", () -> cell.box(1));
  }

  private static void promise7WrongBoxes() {
    PickCell cell = new PickCell();
    Check.badArgument(cell, "box(1) without kinds", () -> cell.box(1));
    cell.kind(1, 1, 1, 1, 0, 0);
    cell.kind(1, 1, 1, 1, 0, 0);
    int[] wrongs = {
      0, -1, 100, 101, 199, 1001, 10011, 90000, 100000, Integer.MAX_VALUE, Integer.MIN_VALUE
    };
    for (int order : wrongs) {
      Check.badArgument(cell, "box(" + order + ")", () -> cell.box(order));
    }
    Check.same("box(99)", cell.box(99), 0);
    cell.kind(1, 1, 1, 1, 0, 0);
    Check.same("box(100) as there are 3", cell.box(100), 1);
    cell.fall(2, 0, 0);
    Check.same("the first has no need of a later kind", cell.wouldFit(0, 0), -2);
  }
}
