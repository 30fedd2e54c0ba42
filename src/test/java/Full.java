/** A cell with as much as there may be: 5 KINDS, 12 THINGS, 4 BOXES. */
final class Full {
  /**
   * The THING 9 is in the BOX 0, the BOX 3 is closed, 11 can be picked by the cup, 5 lies on 0 and
   * 7 on 1, 6 and 10 are TANGLED, so are 8 and 3, and the arm is SLOW and has nothing.
   */
  static final String CELL = """
      kind(1, 1, 1, 2, 0, 200): 0; kind(2, 1, 2, 3, 0, 3): 1; kind(1, 2, 3, 4, 1, 0): 2
      kind(2, 2, 4, 5, 2, 9): 3; kind(3, 3, 1, 60, 2, 9): 4
      fall(4, 0, 0): 0; fall(3, 3, 0): 1; fall(2, 5, 4): 2; fall(1, 0, 5): 3
      fall(0, 4, 3): 4; fall(0, 1, 1): 5; fall(0, 2, 3): 6; fall(1, 4, 1): 7
      fall(2, 0, 3): 8; fall(0, 3, 5): 9; fall(0, 3, 3): 10; fall(0, 2, 5): 11
      box(12345): 0; box(1): 1; box(10): 2; box(2): 3
      tangle(6, 10): 1; tangle(8, 3): 1
      pick(9, 0): 0; put(0): 1; close(3): 2; person(false, true): false
      """;

  private Full() {
  }
}
