/**
 * One run of as many calls as an object is used for: 512, the last 264 of them all that digest() is
 * made of, and digest().
 */
public final class LongestRunTest {
  /**
   * With 3, 1 and 2 come out and 9 from far off; 7 SLIPS once; 7 on 6 puts 11 into SHADOW; 8 and 10
   * come out with 6, which is thrown back upon them. The arm has 1 in the end.
   */
  private static final String DONE = """
      fall(0, 0, 0): !Index; box(1): !Argument; back(): !State
      kind(1, 1, 1, 2, 0, 5): 0; kind(2, 1, 2, 4, 2, 20): 1; kind(1, 2, 1, 3, 1, 10): 2
      kind(2, 2, 3, 6, 0, 40): 3; kind(3, 3, 1, 9, 0, 100): 4; kind(1, 1, 1, 1, 0, 0): !State
      fall(4, 0, 0): 0; fall(3, 1, 1): 1; fall(0, 0, 0): 2; fall(1, 2, 2): 3
      fall(2, 5, 0): 4; fall(0, 5, 1): 5; fall(3, 4, 4): 6; fall(1, 3, 4): 7
      fall(5, 1, 1): !Index; fall(4, 4, 0): !Argument
      fall(2, 2, 4): 8; fall(0, 0, 3): 9; fall(1, 0, 5): 10; fall(0, 4, 3): 11
      fall(0, 3, 3): !State
      box(11112): 0; box(10): 1; box(102): 2; box(0): !Argument; box(1): 3; box(1): !State
      tangle(3, 1): 1; tangle(3, 2): 2; tangle(3, 9): 3; tangle(9, 2): 2
      tangle(3, 3): !Argument; tangle(12, 3): !Index
      tangle(7, 6): 1; tangle(7, 8): 2; tangle(10, 5): 1
      ofThing(0..11, 6): 14 8 0 0 32 0 128 0 0 0 0 0
      hinders(0..11, 1): 1 1 3 0 1 0 1 0 3 3 3 2
      next(0..4): 15 10 -1 -1 -1
      pick(1, 0): 1
      pick(3, 2): 0
      ofThing(0..11, 3): 0 1 4 4 0 1 0 3 0 5 0 0
      hinders(0..11, 1): 1 1 1 -1 1 0 1 0 3 0 3 2
      tangle(3, 0): !State; pick(3, 2): !State; pick(4, 1): !State
      put(4): !Index; put(2): -2; put(0): 1; put(0): !State; ofThing(3, 5): 2
      pick(9, 0): 0
      ofThing(2, 8): 0
      wouldFit(9, 0..3): 0 -2 0 0
      put(3): 1; many(4): 1
      pick(2, 0): 0; put(0): 2
      pick(1, 1): 0; put(0): -3
      clock(): 85.75
      seen(0..5, 2): 0 0 0 -1 -1 -1
      back(): 1
      person(true, true): false
      hinders(0..11, 1): 1 5 -1 -1 1 5 1 5 3 -1 3 2
      pick(7, 1): 5; person(false, true): true
      pick(7, 2): -2
      ofThing(6..8, 8): 0 0 0
      tangle(6, 7): 1
      ticks(0..11, 2): 17.5 10.0 -1.0 -1.0 17.5 14.0 7.5 3.5 8.5 -1.0 14.0 8.5
      pick(7, 2): 0
      ofThing(6, 0..9): 3 3 4 0 3 0 0 4 0 0
      hinders(11, 0): 0
      put(0): -2; put(3): -2; back(): 3
      hinders(11, 0..2): 2 2 2
      pick(11, 0): 2
      ahead(6..8): 128 0 0
      pick(7, 1): 0
      put(1): 1; many(4): 2; close(1): 0; close(1): !State; put(1): !State
      force(5, 0..2): 6.5 11.0 0.0
      shake(10): 1; shake(12): !Index
      pick(5, 0): 0; put(2): 1
      hinders(4, 0..2): 3 3 3
      pick(4, 1): 3
      pick(11, 0): 0; put(2): 2
      ofBox(2, 0..5): 2 4 1 1 11 3
      close(2): 1; pick(11, 0): !State; pick(12, 0): !Index; pick(6, 3): !Argument
      pick(6, 0): 0; wouldFit(6, 0..3): -3 -1 -1 -2
      put(0): -3; back(): 0
      tangle(8, 6): 1; tangle(8, 4): 2; tangle(10, 6): 1
      ofThing(8, 8): 80
      pick(6, 0): 0
      back(): 3
      pick(10, 2): 1
      tangle(6, 4): 1; tangle(10, 8): 1
      pick(1, 0): 0
      seen(0..5, 4): -1 -1 -1 6 6 -1
      seen(0..5, 5): -1 -1 -1 6 6 -1
      ticks(6, 0..2): 9.0 25.0 25.0
      put(0): -3; put(2): !State
      person(true, false): false; person(false, true): true
      fall(0, 0, 0): !State; kind(3, 3, 4, 60, 2, 200): !State; box(5): !State
      tangle(1, 4): !State; pick(4, 2): !State; many(13): !Argument
      """;

  /** All that digest() is made of, in its order. */
  private static final String ASKED = """
      many(0..12): 5 12 5 4 2 1 0 2 2 4 1 5 6
      clock(): 448.75
      ofKind(0, 6): 0; next(0): -1
      ofKind(1, 6): 1; next(1): -1
      ofKind(2, 6): 2; next(2): -1
      ofKind(3, 6): 1; next(3): 18
      ofKind(4, 6): 1; next(4): 0
      ofThing(0, 0..9): 4 0 0 0 1 0 0 9 0 0; hinders(0, 0..2): 0 3 3; ahead(0): 0
      ofThing(1, 0..9): 3 2 2 1 4 1 0 0 0 0; hinders(1, 0..2): -1 -1 -1; ahead(1): 0
      ofThing(2, 0..9): 0 2 2 4 5 2 0 0 0 0; hinders(2, 0..2): -1 -1 -1; ahead(2): 0
      ofThing(3, 0..9): 1 2 2 4 6 2 0 0 0 0; hinders(3, 0..2): -1 -1 -1; ahead(3): 0
      ofThing(4, 0..9): 2 5 0 0 1 0 0 2 320 0; hinders(4, 0..2): 3 3 3; ahead(4): 0
      ofThing(5, 0..9): 0 5 1 1 2 4 0 0 0 0; hinders(5, 0..2): -1 -1 -1; ahead(5): 0
      ofThing(6, 0..9): 3 3 4 3 6 0 0 4 16 0; hinders(6, 0..2): 0 0 3; ahead(6): 0
      ofThing(7, 0..9): 1 3 4 3 5 3 0 0 0 1; hinders(7, 0..2): -1 -1 -1; ahead(7): 0
      ofThing(8, 0..9): 2 3 4 0 1 0 1088 0 1040 0; hinders(8, 0..2): 1 1 1; ahead(8): 1088
      ofThing(9, 0..9): 0 2 2 5 6 5 0 0 0 0; hinders(9, 0..2): -1 -1 -1; ahead(9): 0
      ofThing(10, 0..9): 1 3 4 1 3 0 64 0 256 0; hinders(10, 0..2): 1 1 1; ahead(10): 64
      ofThing(11, 0..9): 0 4 3 0 1 4 0 0 0 0; hinders(11, 0..2): -1 -1 -1; ahead(11): 0
      ofBox(0, 0..5): 2 6 4 1 2 18; wouldFit(0..11, 0): -3 -3 0 -2 0 0 -3 -2 0 0 -2 0
      ofBox(1, 0..5): 1 4 0 0 7 20; wouldFit(0..11, 1): -1 -1 -1 -1 -1 -1 -1 -1 -1 -1 -1 -1
      ofBox(2, 0..5): 2 4 1 0 11 3; wouldFit(0..11, 2): -1 -1 -1 -1 -1 -1 -1 -1 -1 -1 -1 -1
      ofBox(3, 0..5): 1 2 0 1 9 5; wouldFit(0..11, 3): -2 -2 -2 -2 -2 -2 -2 -2 -2 -2 -2 -2
      """;

  public static void main(String[] args) {
    int calls = Runs.rowsOf(DONE + ASKED).size() + 1;
    Check.same("the calls of the longest run", calls, 512);
    Runs.goesOn("An object is used for at most 512 calls after it has been made",
        DONE + ASKED + "digest(): " + digestOfTheAsked());
    Check.end("LongestRunTest");
  }

  private static long digestOfTheAsked() {
    long d = 9609;
    for (String row : Runs.rowsOf(ASKED)) {
      String due = Runs.dueOf(row);
      boolean isClock = Runs.callOf(row).equals("clock()");
      d = d * 31 + (isClock ? (long) (Double.parseDouble(due) * 4) : Long.parseLong(due));
    }
    return d;
  }
}
