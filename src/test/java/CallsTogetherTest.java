/** Runs of calls one after another that touch each other, with every answer that is due. */
public final class CallsTogetherTest {
  public static void main(String[] args) {
    takenWithOthersTangled();
    thrownBackAndPickedAgain();
    towersMakeShadowAndTakeRoom();
    slipsEndTanglesAndLightenTheLift();
    comeOutAgainAndAgain();
    boxesBetweenPicksAndThrows();
    boxesAsTheHeapStands();
    refusedCallsInBetween();
    Check.end("CallsTogetherTest");
  }

  /**
   * 3 is picked. 0 and 2 lie under it, 1 lies far off, 4 has 5 on it: all of them are TANGLED with
   * 3. So 0 and 1 fall at (4, 4), 2 is too wide for that and falls on 0 at its own corner, and 4
   * stays.
   */
  private static void takenWithOthersTangled() {
    Runs.goesOn("A pick that takes a THING with others TANGLED, and what is asked after it", """
        kind(2, 2, 2, 4, 0, 30): 0; kind(1, 1, 3, 3, 2, 9): 1
        kind(3, 1, 1, 2, 1, 12): 2; kind(1, 2, 4, 5, 2, 60): 3
        fall(0, 3, 3): 0; fall(1, 0, 0): 1; fall(2, 3, 5): 2; fall(0, 4, 4): 3
        fall(3, 0, 4): 4; fall(1, 0, 4): 5; fall(2, 1, 2): 6
        tangle(3, 0): 1; tangle(3, 1): 2; tangle(2, 3): 1; tangle(4, 3): 1; tangle(1, 6): 2
        box(1111): 0
        ofThing(0..6, 3): 0 0 0 2 0 4 0
        ofThing(0..6, 4): 2 3 1 4 4 7 1
        ofThing(0..6, 6): 8 0 8 0 32 0 0
        ofThing(0..6, 7): 3 1 1 4 1 1 3
        ofThing(0..6, 8): 8 72 8 23 8 0 2
        hinders(0..6, 0): 1 3 1 0 1 3 3
        hinders(0..6, 1): 1 3 1 3 1 0 0
        hinders(0..6, 2): 1 0 1 3 1 0 3
        ticks(0..6, 0): 7.0 2.25 10.25 8.0 8.0 7.25 5.75
        next(0..3): 9 5 19 -1
        pick(3, 0): 0
        ofThing(0..6, 1): 4 4 3 4 0 0 1
        ofThing(0..6, 2): 4 4 5 4 4 4 2
        ofThing(0..6, 3): 0 2 2 2 0 4 0
        ofThing(0..6, 4): 2 5 3 4 4 7 1
        ofThing(0..6, 5): 0 0 0 1 0 0 0
        ofThing(0..6, 6): 6 0 0 0 32 0 0
        ofThing(0..6, 7): 1 1 3 0 1 1 3
        ofThing(0..6, 8): 0 64 0 0 0 0 2
        hinders(0..6, 0): 1 3 3 -1 1 3 3
        hinders(0..6, 1): 1 0 3 -1 1 0 0
        hinders(0..6, 2): 1 0 3 -1 1 0 3
        force(0..6, 1): 0.0 30.0 0.0 0.0 0.0 30.0 22.0
        ticks(0..6, 0): 2.5 1.75 3.75 -1.0 8.0 7.25 7.25
        next(0..3): -1 4 19 -1
        ahead(0..6): 6 0 0 0 32 0 0
        seen(0..5, {0|1|3}): -1 -1 -1 -1 -1 -1
        seen(0..5, 2): -1 6 6 6 -1 -1
        seen(0..5, 4): 5 -1 -1 -1 1 0
        seen(0..5, 5): 4 -1 -1 2 2 2
        many(0..12): 4 7 6 1 0 3 0 4 4 3 0 0 7
        wouldFit(0..6, 0): 0 0 0 0 0 0 0
        pick(1, 2): !State; tangle(0, 3): !State; put(1): !Index
        put(0): 1
        clock(): 18.0
        wouldFit(0..6, 0): -2 0 0 -2 0 0 0
        pick(1, 1): 0
        ofThing(0..6, 6): 4 0 0 0 32 0 0
        ofThing(0..6, 7): 2 0 3 0 1 1 3
        ofThing(0..6, 8): 0 0 0 0 0 0 0
        ticks(0..6, 1): 2.5 -1.0 3.75 -1.0 8.0 7.25 7.25
        put(0): 2
        ofBox(0, 0..5): 2 7 2 1 1 27
        clock(): 37.75
        digest()
        """);
  }

  /**
   * 1 on 0 beside 2: as 1 is taken, 0 falls at its corner on 2, so 1 comes back higher. Later 1 is
   * thrown upon 3, which fell as the arm had 1.
   */
  private static void thrownBackAndPickedAgain() {
    Runs.goesOn("A THING that is THROWN back, fallen anew, and picked again", """
        kind(2, 1, 1, 5, 0, 5): 0; kind(1, 1, 4, 1, 2, 200): 1
        fall(0, 2, 2): 0; fall(1, 3, 2): 1; fall(1, 4, 2): 2
        tangle(0, 1): 1
        seen(0..5, 2): -1 -1 -1 1 2 -1
        hinders(0, 0..2): 1 1 1
        pick(0, 0): 1
        clock(): 5.75
        many(5..11): -1 0 2 2 0 0 1
        ofThing(0..2, 8): 2 1 0
        ticks(1, 0..2): 3.25 11.25 11.25
        pick(1, 1): 0
        clock(): 17.0
        ofThing(0, 0..9): 0 3 2 4 5 0 0 2 0 0
        ofThing(1, 0..9): 1 3 2 1 5 1 0 0 0 0
        ofThing(2, 0..9): 1 4 2 0 4 0 1 0 0 0
        seen(0..5, 2): -1 -1 -1 0 0 -1
        hinders(0, 0..2): 0 0 3
        pick(0, 0): !State; put(0): !Index; tangle(0, 1): !State
        back(): 5
        ofThing(1, 0..9): 1 3 2 5 9 0 0 1 0 0
        ofThing(0..2, 6): 2 0 1
        ahead(0..2): 2 0 3
        seen(0..5, 2): -1 -1 -1 1 -1 -1
        hinders(0..2, 1): 1 0 1
        ticks(0..2, 1): 1.75 0.75 3.5
        back(): !State
        person(true, false): false
        next(0..1): -1 -1
        pick(1, 1): 5
        person(false, true): true
        next(0..1): -1 4
        clock(): 17.75
        pick(1, 1): 0
        clock(): 19.25
        many(9..12): 2 0 2 5
        fall(0, 2, 2): 3
        ofThing(3, 0..9): 0 2 2 5 6 0 0 2 0 0
        ofThing(0..2, 7): 1 0 0
        back(): 6
        ofThing(0..3, 6): 10 0 1 2
        ahead(0..3): 10 0 11 2
        ofThing(0..3, 7): 0 1 0 0
        hinders(0..3, 1): 1 0 1 1
        pick(1, 0): 3
        clock(): 36.25
        pick(1, 2): 0
        clock(): 53.25
        hinders(0..3, 0): 1 -1 1 0
        back(): 6
        ticks(1, 0..2): 17.0 17.0 1.0
        person(false, false): false
        ticks(1, 0..2): 8.5 8.5 0.5
        digest()
        """);
  }

  /** As 0 is taken, the two far towers 1 and 2 fall on one another beside 3 and 4. */
  private static void towersMakeShadowAndTakeRoom() {
    Runs.goesOn("TANGLED ones that fall back: what is seen, and where the fingers have ROOM", """
        kind(1, 1, 4, 1, 0, 0): 0; kind(1, 1, 1, 1, 1, 0): 1; kind(1, 1, 2, 1, 1, 0): 2
        fall(0, 1, 1): 0; fall(0, 5, 5): 1; fall(0, 0, 5): 2
        fall(1, 2, 1): 3; fall(1, 1, 2): 4; fall(2, 1, 0): 5
        tangle(0, 1): 1; tangle(2, 0): 1
        seen(0..5, 0): -1 5 -1 -1 -1 -1
        seen(0..5, 1): -1 0 3 -1 -1 -1
        seen(0..5, 2): -1 4 -1 -1 -1 -1
        hinders(0..5, 1): 3 3 3 0 0 0
        force(0..5, 1): 0.0 0.0 0.0 22.0 22.0 26.0
        pick(0, 0): 0
        seen(0..5, 0): -1 -1 -1 -1 -1 -1
        seen(0..5, 1): -1 2 -1 -1 -1 -1
        seen(0..5, 2): -1 -1 -1 -1 -1 -1
        seen(0..5, 5): -1 -1 -1 -1 -1 -1
        ofThing(0..5, 4): 4 4 8 1 1 2
        ofThing(0..5, 6): 0 4 0 0 0 0
        ofThing(0..5, 7): 0 0 1 0 0 0
        hinders(0..5, 1): -1 1 0 2 2 2
        force(0..5, 1): 0.0 0.0 17.0 22.0 22.0 26.0
        force(0..5, 0): 0.0 0.0 6.5 0.0 0.0 0.0
        back(): 8
        ofThing(0..5, 6): 0 5 1 0 0 0
        ahead(0..5): 0 5 1 0 0 0
        hinders(0..5, 0): 0 1 1 2 2 2
        many(12): 12
        pick(0, 0): 0
        many(12): 8
        hinders(0..5, 0): -1 1 0 2 2 2
        fall(2, 2, 1): 6
        seen(0..5, 1): -1 2 -1 -1 -1 -1
        hinders(0..6, 1): -1 1 0 1 2 2 2
        fall(2, 2, 1): 7
        seen(0..5, 1): -1 2 7 -1 -1 -1
        hinders(0..7, 1): -1 1 0 1 2 2 1 0
        force(0..7, 1): 0.0 0.0 17.0 22.0 22.0 26.0 26.0 26.0
        fall(2, 1, 2): 8; fall(2, 1, 2): 9
        hinders(2, 0..2): 0 3 3
        force(0..9, 1): 0.0 0.0 0.0 22.0 22.0 26.0 26.0 26.0 26.0 26.0
        back(): 8
        force(0, 0..2): 6.5 17.0 0.0
        hinders(0..9, 1): 0 1 1 1 1 2 1 2 1 2
        digest()
        """);
  }

  /** The DRAWS are 3, 2, 5, 4, 7, 6: 5 is above the GRIP of 0 with 1 and 2, 7 above that of 1 and 2. */
  private static void slipsEndTanglesAndLightenTheLift() {
    Runs.goesOn("Picks that SLIP, others of the same THING after them, and its TANGLES", """
        kind(1, 1, 1, 2, 0, 0): 0
        fall(0, 0, 0): 0; fall(0, 2, 0): 1; fall(0, 4, 0): 2; fall(0, 0, 4): 3
        tangle(0, 1): 1; tangle(0, 2): 2; tangle(1, 2): 2
        pick(3, 0): 0; back(): 0; pick(3, 0): 0; back(): 0
        many(9): 2
        hinders(0..3, 0): 0 0 0 0
        pick(0, 0): -2
        many(5..11): -1 0 0 0 5 1 0
        ofThing(0..3, 1): 0 2 4 0
        ofThing(0..3, 8): 0 4 2 0
        ofThing(0..3, 9): 1 0 0 0
        clock(): 20.25
        pick(0, 2): 3
        many(9): 5
        pick(0, 0): 0
        many(9): 4
        ofThing(0..3, 1): 0 2 4 0
        back(): 0
        pick(1, 0): -2
        many(9): 7
        ofThing(0..3, 8): 0 0 0 0
        ofThing(0..3, 9): 1 1 0 0
        many(10): 2
        pick(2, 0): 0
        many(5..11): 2 0 4 0 6 2 1
        ofThing(0..3, 1): 0 2 4 0
        clock(): 53.25
        pick(1, 0): !State
        back(): 0
        tangle(2, 1): 1; tangle(2, 0): 2; tangle(2, 3): 3
        hinders(0..3, 0): 0 0 4 0
        pick(2, 0): 4
        hinders(0..3, 1): 3 0 0 0
        shake(3): 1
        pick(2, 0): 0
        many(9): 1
        ofThing(0..3, 1): 4 4 4 0
        ofThing(0..3, 6): 2 0 0 0
        back(): 2
        ofThing(0..3, 6): 6 4 0 0
        digest()
        """);
  }

  /** Those that come out stay TANGLED with one another: so each pick takes the next ones along. */
  private static void comeOutAgainAndAgain() {
    Runs.goesOn("Those that came out are picked in turn, and others come out with them", """
        kind(1, 1, 1, 1, 0, 9): 0; kind(2, 1, 2, 1, 0, 9): 1
        fall(0, 5, 5): 0; fall(1, 0, 0): 1; fall(0, 3, 0): 2; fall(1, 3, 3): 3; fall(0, 0, 3): 4
        tangle(0, 1): 1; tangle(1, 2): 2; tangle(2, 3): 2; tangle(3, 1): 2; tangle(4, 0): 1
        box(99): 0
        pick(0, 0): 0
        ofThing(0..4, 1): 5 0 3 3 5
        ofThing(0..4, 2): 5 0 0 3 5
        ofThing(0..4, 8): 0 12 10 6 0
        put(0): 1
        pick(1, 0): 0
        ofThing(0..4, 1): 5 0 0 0 5
        ofThing(0..4, 2): 5 0 0 0 5
        ofThing(0..4, 3): 0 0 0 1 0
        ofThing(0..4, 6): 0 0 8 0 0
        ofThing(0..4, 8): 0 0 8 4 0
        tangle(4, 3): 1
        back(): 3
        ofThing(0..4, 6): 0 0 10 2 0
        hinders(0..4, 0): -1 0 1 1 0
        pick(3, 0): 1
        pick(1, 0): 0
        ofThing(0..4, 8): 0 0 8 20 8
        put(0): 2
        pick(3, 0): 0
        ofThing(0..4, 1): 5 0 0 0 0
        ofThing(0..4, 2): 5 0 0 0 0
        ofThing(0..4, 3): 0 3 0 1 1
        ofThing(0..4, 6): 0 0 16 0 0
        ofThing(0..4, 5): 2 2 0 1 0
        seen(0..5, 0): 4 -1 -1 -1 -1 -1
        put(0): 3
        tangle(4, 2): 1
        pick(2, 0): 1
        pick(4, 0): 0
        ofThing(0..4, 3): 0 3 0 1 1
        back(): 1
        ofThing(0..4, 6): 0 0 16 0 0
        many(0..12): 2 5 2 1 0 -1 0 0 0 7 0 2 2
        digest()
        """);
  }

  /** 3 in the BOX 0 bears 1 only; a THING falls where 0 was, as the arm has 0. */
  private static void boxesBetweenPicksAndThrows() {
    Runs.goesOn("BOXES between picks: PUTS that are refused, THROWS, a BOX that is closed", """
        kind(1, 1, 1, 2, 0, 3): 0; kind(1, 1, 2, 3, 0, 200): 1; kind(2, 1, 1, 6, 0, 1): 2
        fall(0, 2, 2): 0; fall(1, 2, 2): 1; fall(0, 3, 2): 2; fall(2, 2, 2): 3; fall(1, 0, 5): 4
        box(112): 0; box(20): 1
        hinders(0..4, 0): 1 1 1 0 0
        pick(3, 0): 0
        clock(): 5.0
        ofThing(0..4, 6): 2 0 0 0 0
        wouldFit(0..4, 0): 0 0 0 0 0
        wouldFit(0..4, 1): -2 0 -2 -2 0
        put(0): 1
        ofBox(0, 0..5): 1 6 3 1 3 1
        wouldFit(0..4, 0): -3 -3 -3 -2 -3
        hinders(0..4, 0): 1 0 0 -1 0
        pick(1, 0): 0
        put(0): -3
        many(5): 1
        put(1): 1
        clock(): 37.25
        ofBox(1, 0..5): 1 3 1 1 1 200
        next(0..2): 0 12 -1
        person(false, true): false
        pick(0, 0): 0
        clock(): 42.75
        put(0): -3; put(1): -2
        clock(): 82.75
        close(0): 3
        put(0): !State
        clock(): 82.75
        fall(1, 2, 2): 5
        ofThing(5, 3): 0
        back(): 2
        ofThing(0..5, 6): 0 0 0 0 0 1
        hinders(0..5, 0): 0 -1 0 -1 0 1
        wouldFit(0..5, 0): -1 -1 -1 -1 -1 -1
        box(2): 2
        pick(0, 0): 0
        put(2): 1
        clock(): 107.25
        wouldFit(0..5, 2): 0 -2 0 -2 -2 -2
        hinders(5, 0): 0
        pick(5, 0): 0
        put(1): 2
        many(4): 1
        close(1): 0
        many(4): 1
        wouldFit(0..5, 1): -1 -1 -1 -1 -1 -1
        pick(2, 0): 0
        put(2): 2
        clock(): 160.75
        ofThing(0..5, 5): 4 3 4 2 0 3
        ofBox(2, 0..5): 2 4 0 1 2 1
        many(0..12): 3 6 1 3 2 -1 0 3 2 6 0 0 2
        digest()
        """);
  }

  /** As 1 is taken, 0 and 2 come out, and 2 falls on 0; then the BOX takes one after another. */
  private static void boxesAsTheHeapStands() {
    Runs.goesOn("What would be next, and fits, as the heap stands after each pick", """
        kind(1, 1, 2, 4, 0, 4): 0; kind(1, 1, 1, 2, 2, 6): 1
        fall(1, 2, 2): 0; fall(0, 2, 2): 1; fall(1, 4, 4): 2; fall(0, 5, 0): 3
        box(22): 0
        tangle(1, 0): 1; tangle(2, 1): 1
        next(0..1): 9 7
        pick(1, 0): 4
        next(0..1): 9 7
        pick(1, 1): 0
        ofThing(0..3, 1): 2 2 2 5
        ofThing(0..3, 3): 0 1 1 0
        ofThing(0..3, 6): 4 0 0 0
        ahead(0..3): 4 0 0 0
        next(0..1): 9 7
        put(0): 1
        wouldFit(0..3, 0): 0 0 0 0
        ofBox(0, 5): 4
        pick(2, 2): 0
        next(0..1): 9 2
        put(0): 2
        wouldFit(0..3, 0): 0 -3 0 -3
        ofBox(0, 5): 2
        pick(0, 2): 0
        next(0..1): 9 -1
        put(0): 3
        wouldFit(0..3, 0): -2 -3 -2 -3
        ofBox(0, 0..5): 3 8 1 1 0 0
        pick(3, 0): 0
        put(0): -3
        back(): 0
        next(0..1): 9 -1
        clock(): 83.75
        many(0..12): 2 4 1 1 0 -1 0 5 0 4 0 1 2
        digest()
        """);
  }

  /** As 1 is taken, 0 comes out: 2, that lay on it, is in the BOX by then. */
  private static void refusedCallsInBetween() {
    String refused = """
        kind(4, 1, 1, 1, 0, 0): !Argument; fall(2, 0, 0): !Index; fall(1, 5, 5): !Argument
        tangle(0, 3): !Index; tangle(1, 1): !Argument; shake(-1): !Index; box(100): !Argument
        pick(3, 0): !Index; pick(0, 3): !Argument; put(1): !Index; close(1): !Index
        ofKind(2, 0): !Index; ofKind(1, 7): !Argument; ofThing(3, 5): !Index
        ofThing(0, 10): !Argument; hinders(0, -1): !Argument; force(3, 1): !Index
        ticks(0, 3): !Argument; seen(6, 0): !Index; ofBox(1, 0): !Index; ofBox(0, 6): !Argument
        many(13): !Argument; ahead(3): !Index; next(2): !Index; wouldFit(3, 0): !Index
        wouldFit(0, 1): !Index
        """;
    Runs.goesOn("A method that throws an exception changes nothing (between all that is done)", """
        kind(1, 1, 2, 4, 0, 8): 0; kind(2, 1, 1, 4, 0, 0): 1
        fall(0, 1, 1): 0; fall(1, 3, 3): 1; fall(0, 1, 1): 2
        box(21): 0
        REFUSED
        tangle(0, 1): 1
        tangle(2, 0): 1
        REFUSED
        back(): !State; put(0): !State
        pick(2, 0): 4
        REFUSED
        shake(2): 1
        REFUSED
        person(false, true): false
        REFUSED
        pick(2, 0): 0
        ofThing(0..2, 3): 0 0 2
        REFUSED
        pick(1, 0): !State; tangle(1, 2): !State
        put(0): 1
        REFUSED
        pick(2, 0): !State; tangle(2, 1): !State; back(): !State; put(0): !State
        pick(1, 0): 0
        REFUSED
        put(0): 2
        REFUSED
        pick(0, 0): 0
        put(0): -2
        REFUSED
        back(): 0
        REFUSED
        close(0): 1
        close(0): !State
        REFUSED
        ofThing(0, 0..9): 0 3 3 0 2 0 0 1 0 0
        clock(): 84.0
        many(0..12): 2 3 1 1 0 -1 0 3 3 5 0 1 2
        digest()
        """.replace("REFUSED\n", refused));
  }
}
