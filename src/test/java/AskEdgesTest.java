import java.math.BigInteger;

/** The rows "Returns" and "Throws" of the promises 12 to 24: what one asks, and what would be. */
public final class AskEdgesTest {
  public static void main(String[] args) {
    promise12();
    promise13();
    promise13Places();
    promise14And15And16();
    promise16();
    promise17();
    promise18();
    promise19();
    promise20();
    promise20MostOfAll();
    promise20GreatestTop();
    promise21();
    promise22FewestTicks();
    promise22SmallestNumber();
    promise22Throws();
    promise23();
    promise24WrapsAround();
    theLastCallThatIsPromised();
    Check.end("AskEdgesTest");
  }

  private static void promise12() {
    Runs.holds("Promise 12: 6 how many THINGS of it are in the BIN", """
        kind(1, 1, 1, 1, 0, 9): 0; kind(1, 1, 1, 1, 0, 9): 1
        ofKind({0|1}, 6): 0
        fall(1, 0, 0): 0
        ofKind(0, 6): 0; ofKind(1, 6): 1
        """
        + Runs.times(11, "fall(1, 3, 3)") + """
        ofKind(0, 6): 0; ofKind(1, 6): 12
        pick(0, 0): 0
        ofKind(1, 6): 11
        box(10): 0; put(0): 1
        ofKind(1, 6): 11
        pick(11, 0): 0; back(): 10
        ofKind(1, 6): 11
        """);
    Runs.holds("Promise 12, Throws: !Index before !Argument", """
        ofKind(0, 0): !Index; ofKind(0, 7): !Index
        kind(2, 3, 4, 5, 1, 6): 0
        ofKind(0, 0): 2; ofKind(0, 1): 3; ofKind(0, 2): 4; ofKind(0, 3): 5; ofKind(0, 4): 1
        ofKind(0, 5): 6; ofKind(0, 6): 0
        ofKind(0, {7|-1|MIN|MAX}): !Argument
        ofKind({1|-1|MIN|MAX}, {0|6|7|-1|MIN|MAX}): !Index
        """);
    Runs.holds("Promise 12, Throws: of 5 KINDS", Full.CELL + """
        ofKind({5|-1|MIN|MAX}, {0|7}): !Index
        ofKind({0|4}, {7|-1|MIN|MAX}): !Argument
        ofKind(4, 3): 60; ofKind(0, 6): 5; ofKind(1, 6): 2
        """);
  }

  private static void promise13() {
    Runs.holds("Promise 13, Throws: !Index before !Argument", """
        ofThing(0, 0): !Index; ofThing(0, 10): !Index
        kind(1, 1, 1, 1, 0, 0): 0; kind(1, 1, 2, 1, 0, 0): 1
        fall(1, 3, 4): 0
        ofThing(0, 0): 1; ofThing(0, 1): 3; ofThing(0, 2): 4; ofThing(0, 3): 0; ofThing(0, 4): 2
        ofThing(0, 5): 0; ofThing(0, 6): 0; ofThing(0, 7): 1; ofThing(0, 8): 0; ofThing(0, 9): 0
        ofThing(0, {10|-1|MIN|MAX}): !Argument
        ofThing({1|-1|MIN|MAX}, {0|9|10|-1|MIN|MAX}): !Index
        """);
    Runs.holds("Promise 13, Throws: of 12 THINGS", Full.CELL + """
        ofThing({12|-1|MIN|MAX}, {0|10}): !Index
        ofThing({0|9|11}, {10|-1|MIN|MAX}): !Argument
        ofThing(9, 5): 2; ofThing(0, 0): 4; ofThing(10, 8): 64; ofThing(0, 6): 32
        """);
    Runs.holds("Promise 13: the set (the sum of 2^k) of THINGS that LIE ON it, or are TANGLED", """
        kind(1, 1, 1, 1, 0, 0): 0
        """
        + Runs.times(12, "fall(0, 3, 3)") + """
        ofThing(0, 6): 4094; ofThing(1, 6): 4092; ofThing(10, 6): 2048; ofThing(11, 6): 0
        tangle(0, 11): 1; tangle(11, 1): 2
        ofThing(0, 8): 2048; ofThing(11, 8): 3; ofThing(1, 8): 2048
        """);
  }

  private static void promise13Places() {
    Runs.holds("Promise 13: 5 where it is (0 in the BIN, 1 the arm HAS it, 2 and more: in the BOX"
        + " with that number less 2) ... (6 and 7: 0, if it is not in the BIN)", """
        kind(1, 1, 1, 1, 0, 9): 0
        box(1): 0; box(1): 1; box(1): 2; box(1): 3
        fall(0, 0, 0): 0; fall(0, 2, 0): 1; fall(0, 4, 0): 2; fall(0, 4, 0): 3
        ofThing({0|1|2|3}, 5): 0; ofThing(2, 6): 8; ofThing(3, 7): 1
        pick(3, 0): 0
        ofThing(3, 5): 1; ofThing(3, {6|7}): 0; ofThing(2, 6): 0; ofThing(2, 7): 1
        fall(0, 4, 0): 4
        ofThing(3, {6|7}): 0
        put(3): 1
        ofThing(3, 5): 5; ofThing(3, {6|7}): 0; ofThing(3, 3): 1; ofThing(3, 1): 4
        pick(0, 0): 0; put(0): 1
        ofThing(0, 5): 2; ofThing(0, {6|7}): 0
        pick(1, 0): 0; put(2): 1
        ofThing(1, 5): 4; ofThing(1, {6|7}): 0
        close(2): 0
        ofThing(1, 5): 4
        """);
  }

  private static void promise14And15And16() {
    for (String call : new String[] {"hinders", "force", "ticks"}) {
      String none = call.equals("hinders") ? "-1" : call.equals("force") ? "0.0" : "-1.0";
      Runs.holds("Promises 14 to 16, Throws: !Index before !Argument; also if it is not in the BIN",
          (call + "(0, 0): !Index; " + call + "(0, 3): !Index\n" + """
          kind(1, 1, 1, 1, 0, 9): 0; kind(1, 1, 1, 1, 2, 9): 1
          box(1): 0
          fall(0, 2, 2): 0; fall(1, 4, 4): 1
          ASK({2|-1|MIN|MAX}, {0|2|3|-1|MIN|MAX}): !Index
          ASK({0|1}, {3|-1|MIN|MAX}): !Argument
          pick(0, 0): 0
          ASK(0, {0|1|2}): NONE; ASK(0, {3|-1}): !Argument
          put(0): 1
          ASK(0, {0|1|2}): NONE; ASK(0, {3|-1}): !Argument
          """).replace("ASK", call).replace("NONE", none));
      Runs.holds("Promises 14 to 16, Throws: of 12 THINGS", Full.CELL
          + call + "({12|-1|MIN|MAX}, {0|3}): !Index\n"
          + call + "({0|9|11}, {3|-1|MIN|MAX}): !Argument\n" + call + "(9, {0|1|2}): " + none);
    }
  }

  private static void promise16() {
    Runs.holds("Promise 16: Returns the TICKS of a pick for it now (hindered or not); -1.0, if it is"
        + " not in the BIN.", """
        kind(1, 1, 1, 1, 0, 9): 0
        fall(0, 0, 0): 0; fall(0, 0, 0): 1
        ticks(0, 0): 2.75; ticks(1, 0): 2.5; ticks(0, 2): 10.75
        pick(1, 0): 0
        ticks(1, {0|1|2}): -1.0; ticks(0, 0): 2.75
        person(true, true): false
        ticks(1, {0|1|2}): -1.0; ticks(0, 0): 5.5
        back(): 1
        ticks(1, 0): 5.0
        """);
  }

  private static void promise17() {
    Runs.holds("Promise 17: Returns the CLOCK (what is told, and THROWING, adds nothing)", """
        clock(): 0.0
        kind(1, 1, 1, 1, 0, 9): 0; fall(0, 5, 5): 0; fall(0, 1, 1): 1; tangle(0, 1): 1
        shake(0): 1; person(true, true): false; person(false, false): true; box(1): 0; box(1): 1
        close(1): 1
        clock(): 0.0
        pick(0, 0): 0
        clock(): 10.25
        back(): 0
        clock(): 10.25
        pick(0, 0): 0; put(0): 1
        clock(): 23.0
        """);
  }

  private static void promise18() {
    Runs.holds("Promise 18: Returns the THING that is seen there; NONE without one, or in SHADOW.",
        """
        kind(1, 1, 4, 1, 0, 9): 0; kind(1, 1, 1, 1, 0, 9): 1
        seen(3, 3): -1
        fall(1, 3, 3): 0
        seen(3, 3): 0
        fall(0, 4, 3): 1
        seen(3, 3): 0; seen(4, 3): 1
        fall(1, 4, 3): 2
        seen(3, 3): -1; seen(4, 3): 2; seen(5, 3): -1
        seen({6|-1|MIN|MAX}, {3|6|-1}): !Index
        seen({3|0|5}, {6|-1|MIN|MAX}): !Index
        """);
    Runs.holds("Promise 18, Throws: as there is all of everything", Full.CELL + """
        seen({6|-1|MIN|MAX}, 0): !Index; seen(0, {6|-1|MIN|MAX}): !Index
        seen(0, 0): 0; seen(5, 5): 2; seen(3, 5): -1
        """);
  }

  private static void promise19() {
    Runs.holds("Promise 19: 4 the THING that was put last (NONE), 5 how much the THING at the bottom"
        + " could bear yet (NONE without one)", """
        kind(1, 1, 1, 3, 0, 7): 0; kind(1, 1, 1, 4, 0, 0): 1
        box(99): 0; box(1): 1
        fall(0, 0, 0): 0; fall(1, 2, 0): 1; fall(0, 4, 0): 2
        ofBox(0, {0|1}): 0; ofBox(0, 2): 18; ofBox(0, 3): 1; ofBox(0, {4|5}): -1
        pick(2, 0): 0
        ofBox(0, {4|5}): -1
        put(0): 1
        ofBox(0, 0): 1; ofBox(0, 1): 3; ofBox(0, 2): 17; ofBox(0, 3): 1; ofBox(0, 4): 2
        ofBox(0, 5): 7
        pick(0, 0): 0; put(0): 2
        ofBox(0, 0): 2; ofBox(0, 1): 6; ofBox(0, 2): 16; ofBox(0, 4): 0; ofBox(0, 5): 4
        pick(1, 1): 0; put(0): 3
        ofBox(0, 0): 3; ofBox(0, 1): 10; ofBox(0, 2): 15; ofBox(0, 4): 1; ofBox(0, 5): 0
        close(0): 15
        ofBox(0, 0): 3; ofBox(0, 1): 10; ofBox(0, 2): 15; ofBox(0, 3): 0; ofBox(0, 4): 1
        ofBox(0, 5): 0
        close(1): 1
        ofBox(1, {0|1|3}): 0; ofBox(1, 2): 1; ofBox(1, {4|5}): -1
        """);
    Runs.holds("Promise 19, Throws: !Index before !Argument", """
        ofBox(0, 0): !Index; ofBox(0, 6): !Index
        kind(1, 1, 1, 1, 0, 0): 0
        box(1): 0
        ofBox(0, {6|-1|MIN|MAX}): !Argument
        ofBox({1|-1|MIN|MAX}, {0|5|6|-1|MIN|MAX}): !Index
        """);
    Runs.holds("Promise 19, Throws: of 4 BOXES, one of them closed", Full.CELL + """
        ofBox({4|-1|MIN|MAX}, {0|6}): !Index
        ofBox({0|3}, {6|-1|MIN|MAX}): !Argument
        ofBox(0, 4): 9; ofBox(0, 5): 200; ofBox(3, 3): 0; ofBox(3, 4): -1
        """);
  }

  private static void promise20() {
    Runs.holds("Promise 20, Throws: if what is not 0 to 12", """
        many({-1|13|MIN|MAX}): !Argument
        many(0): 0; many(12): 0
        kind(1, 1, 3, 1, 0, 9): 0
        many(12): 0
        fall(0, 1, 2): 0; fall(0, 1, 2): 1; fall(0, 5, 5): 2
        many(12): 6; many({1|2}): 3
        pick(1, 0): 0
        many(12): 3; many(1): 3; many(2): 2; many(5): 1; many(7): 1; many(8): 2
        box(9): 0; put(0): 1
        many(5): -1
        pick(0, 0): 0
        many(5): 0; many(12): 3
        put(0): 2; pick(2, 0): 0
        many(12): 0; many(2): 0; many(1): 3; many(5): 2
        many({-1|13|MIN|MAX}): !Argument
        """);
  }

  private static void promise20MostOfAll() {
    Runs.holds("Promise 20: as there is all of everything", Full.CELL + """
        many({-1|13|MIN|MAX}): !Argument
        many(0): 5; many(1): 12; many(2): 11; many(3): 4; many(4): 0; many(5): -1; many(6): 0
        many(7): 3; many(8): 5; many(9): 3; many(10): 0; many(11): 0; many(12): 6
        pick(11, 0): 0
        many(2): 10; many(5): 11; many(7): 2; many(9): 2
        """);
  }

  private static void promise20GreatestTop() {
    for (String corner : new String[] {"0, 0", "5, 0", "0, 5", "5, 5", "2, 3"}) {
      Runs.holds("Promise 20: 12 the greatest TOP in the BIN (0 without any)",
          "kind(1, 1, 3, 1, 0, 0): 0; kind(1, 1, 1, 1, 0, 0): 1\n"
          + "many(12): 0; fall(1, 3, 3): 0; many(12): 1\n"
          + "fall(0, " + corner + "): 1; many(12): 3; fall(0, " + corner + "): 2; many(12): 6\n"
          + "pick(2, 0): 0; many(12): 3; fall(1, 3, 3): 3; many(12): 3; back(): 3; many(12): 6\n");
    }
  }

  private static void promise21() {
    Runs.holds("Promise 21: those that LIE ON it, on these, and so on; 0, if it is not in the BIN.",
        """
        ahead({0|-1}): !Index
        kind(2, 1, 1, 1, 0, 9): 0; kind(1, 1, 1, 1, 0, 9): 1
        fall(0, 0, 0): 0
        ahead(0): 0
        ahead({1|-1|MIN|MAX}): !Index
        fall(0, 1, 0): 1; fall(0, 2, 0): 2; fall(0, 3, 0): 3; fall(0, 4, 0): 4
        fall(1, 5, 0): 5; fall(1, 5, 1): 6
        ahead(0): 62; ahead(1): 60; ahead(4): 32; ahead({5|6}): 0
        pick(5, 0): 0
        ahead(0): 30; ahead(5): 0
        pick(6, 0): !State
        box(90): 0; put(0): 1
        ahead(0): 30; ahead(5): 0
        """);
    Runs.holds("Promise 21: a chain of 12 THINGS, each LYING ON the last one", """
        kind(2, 1, 1, 1, 0, 0): 0
        fall(0, {0|1|2|3|4|3|2|1|0|1|2|3}, 2)
        ahead(0): 4094; ahead(1): 4092; ahead(4): 4064; ahead(10): 2048; ahead(11): 0
        ahead({12|-1|MIN|MAX}): !Index
        """);
    Runs.holds("Promise 21: also those with smaller numbers", """
        kind(2, 1, 1, 1, 0, 0): 0
        fall(0, {3|2|1|0}, 0)
        ahead(0): 14
        pick(3, 0): 0; fall(0, 0, 0): 4; back(): 4
        ahead(0): 30; ahead(2): 24; ahead(4): 8; ahead(3): 0
        """);
    Runs.holds("Promise 21: on these, and so on, by way of the THING 0", """
        kind(2, 1, 1, 1, 0, 0): 0; kind(1, 1, 1, 1, 0, 0): 1
        fall(0, 1, 1): 0
        pick(0, 0): 0; fall(1, 2, 1): 1; back(): 1; fall(1, 1, 1): 2
        ahead(1): 5; ahead(0): 4; ahead(2): 0
        """);
  }

  private static void promise22FewestTicks() {
    Runs.holds("Promise 22: of a pick that nothing hinders now, for a THING of that KIND, with the"
        + " fewest TICKS; NONE without one", """
        kind(1, 1, 1, 5, 0, 9): 0; kind(1, 1, 1, 37, 2, 9): 1
        next({0|1}): -1
        fall(1, 0, 3): 0
        next({0|1}): -1
        fall(0, 5, 5): 1
        next(0): 3
        fall(0, 4, 4): 2
        next(0): 6; next(1): -1
        person(true, false): false
        next(0): -1
        person(false, true): true
        next(0): 6
        pick(2, 0): 0
        next(0): 3
        box(1): 0; put(0): 1
        next(0): 3
        pick(1, 0): 0
        next({0|1}): -1
        back(): 0
        next(0): 3
        tangle(1, 0): 1
        next(0): -1
        """);
    Runs.holds("Promise 22: also as the arm HAS one", """
        kind(1, 1, 1, 1, 0, 9): 0
        fall(0, 0, 0): 0; fall(0, 3, 3): 1
        next(0): 0
        pick(0, 0): 0
        next(0): 3; hinders(1, 0): 0
        pick(1, 0): !State
        """);
  }

  private static void promise22SmallestNumber() {
    String sentence = "Promise 22: of several the smallest such number (3 times the THING, and the"
        + " tool)";
    Runs.holds(sentence + ": of THINGS", """
        kind(1, 1, 1, 1, 0, 9): 0
        fall(0, 5, 5): 0; fall(0, 2, 2): 1; fall(0, 2, 0): 2; fall(0, 0, 2): 3
        next(0): 3
        pick(1, 0): 0
        next(0): 6
        """);
    Runs.holds(sentence + ": of tools", """
        kind(1, 1, 1, 1, 2, 9): 0; kind(1, 1, 1, 1, 0, 9): 1
        fall(0, 2, 2): 0; fall(1, 4, 4): 1
        ticks(0, 1): 13.75; ticks(0, 2): 13.75
        next(0): 1; next(1): 3
        pick(0, 2): 0; back(): 0
        next(0): 2
        ticks(1, 0): 13.75; ticks(1, 1): 13.75
        next(1): 3
        pick(1, 1): 0; back(): 0
        next(0): 1; next(1): 4
        """);
    // 10.25 TICKS each: 0 with another tool (as there is no ROOM), 1 or 2 with that of the arm.
    Runs.holds(sentence + ": of a THING with another tool and one further off", """
        kind(1, 1, 1, 1, 2, 9): 0; kind(1, 1, 2, 1, 1, 9): 1
        fall(1, 0, 0): 0
        fall(0, 0, 0): 1; fall(0, 5, 2): 2
        pick(1, 1): 3
        ticks(1, 2): 10.25; ticks(2, 1): 10.25; ticks(2, 2): 18.25
        next(0): 5
        """);
    Runs.holds(sentence + ": of a THING further off, and one with another tool", """
        kind(1, 1, 1, 1, 2, 9): 0; kind(1, 1, 2, 1, 1, 9): 1
        fall(1, 0, 0): 0
        fall(0, 5, 2): 1; fall(0, 0, 0): 2
        pick(2, 1): 3
        ticks(2, 2): 10.25; ticks(1, 1): 10.25; ticks(1, 2): 18.25
        next(0): 4
        """);
  }

  private static void promise22Throws() {
    Runs.holds("Promise 22, Throws: if there is no such KIND", """
        next({0|-1|MIN|MAX}): !Index
        kind(1, 1, 1, 1, 0, 9): 0
        next(0): -1
        next({1|-1|MIN|MAX}): !Index
        """);
    Runs.holds("Promise 22, Throws: of 5 KINDS", Full.CELL + """
        next({5|-1|MIN|MAX}): !Index
        next(4): -1; next(0): 33
        """);
  }

  private static void promise23() {
    Runs.holds("Promise 23: by the BOX as it is, also if the THING is in it; NONE, if the BOX is not"
        + " open", """
        kind(1, 1, 1, 3, 0, 2): 0; kind(1, 1, 1, 2, 0, 9): 1
        fall(0, 0, 0): 0; fall(1, 2, 2): 1; fall(1, 4, 4): 2
        box(1): 0; box(22): 1; box(10): 2
        wouldFit(0, 0): 0; wouldFit({1|2}, 0): -2; wouldFit({0|1|2}, 1): 0
        pick(0, 0): 0
        wouldFit(0, {0|1}): 0; wouldFit(0, 2): -2
        put(1): 1
        wouldFit(0, 1): -3; wouldFit({1|2}, 1): 0; wouldFit(0, 0): 0
        pick(1, 0): 0; put(1): 2
        wouldFit({1|2}, 1): -3; wouldFit(0, 1): -3
        pick(2, 0): 0; put(2): 1
        wouldFit({1|2}, 2): -2; wouldFit(0, 2): -2
        close(1): 2
        wouldFit({0|1|2}, 1): -1; wouldFit({0|1|2}, 2): -2
        close(2): 0
        wouldFit({0|1|2}, 2): -1
        clock(): 44.25
        """);
    Runs.holds("Promise 23, Throws: if there is no such THING, or BOX", """
        wouldFit(0, 0): !Index
        kind(1, 1, 1, 1, 0, 0): 0
        box(1): 0
        wouldFit(0, 0): !Index
        fall(0, 0, 0): 0
        wouldFit({1|-1|MIN|MAX}, {0|1|-1|MIN|MAX}): !Index
        wouldFit(0, {1|-1|MIN|MAX}): !Index
        close(0): 1
        wouldFit(0, 0): -1; wouldFit(1, 0): !Index; wouldFit(0, 1): !Index
        """);
    Runs.holds("Promise 23, Throws: of 12 THINGS and 4 BOXES", Full.CELL + """
        wouldFit({12|-1|MIN|MAX}, {0|3}): !Index
        wouldFit({0|11}, {4|-1|MIN|MAX}): !Index
        wouldFit({0|11}, 3): -1; wouldFit(9, 0): 0; wouldFit(9, 1): 0; wouldFit(9, 2): -2
        """);
  }

  private static void promise24WrapsAround() {
    digestIs("");
    digestIs("kind(1, 1, 1, 1, 0, 0)");
    digestIs("kind(1, 1, 1, 1, 0, 0); fall(0, 2, 3); pick(0, 0)");
    digestIs("kind(1, 1, 1, 1, 0, 0); fall(0, 2, 3); pick(0, 2); box(9)");
    digestIs(Full.CELL);
    digestIs(Full.CELL + "pick(11, 0); person(true, true)");
  }

  private static void digestIs(String run) {
    Teller teller = new Teller();
    for (String call : run.split("[;\n]")) {
      if (!call.isBlank()) {
        teller.answer(call.trim());
      }
    }
    BigInteger due = unwrapped(teller);
    String place = "Promise 24: d * 31 + v, which wraps around as a 64-bit integer\n  after " + run;
    Check.same(place + ": it is beyond 64 bits", due.bitLength() > 64, true);
    Check.same(place, teller.answer("digest()"), "" + due.longValue());
    Check.same(place + ", once more", teller.answer("digest()"), "" + due.longValue());
  }

  private static BigInteger unwrapped(Teller teller) {
    BigInteger d = BigInteger.valueOf(9609);
    d = withWhats(d, teller, "many", 12);
    d = with(d, "" + (long) (Double.parseDouble(teller.answer("clock()")) * 4));
    int kinds = Integer.parseInt(teller.answer("many", 0));
    int things = Integer.parseInt(teller.answer("many", 1));
    int boxes = Integer.parseInt(teller.answer("many", 3));
    for (int kind = 0; kind < kinds; kind++) {
      d = with(d, teller.answer("ofKind", kind, 6));
      d = with(d, teller.answer("next", kind));
    }
    for (int thing = 0; thing < things; thing++) {
      d = withWhats(d, teller, "ofThing", 9, thing);
      d = withWhats(d, teller, "hinders", 2, thing);
      d = with(d, teller.answer("ahead", thing));
    }
    for (int box = 0; box < boxes; box++) {
      d = withWhats(d, teller, "ofBox", 5, box);
      for (int thing = 0; thing < things; thing++) {
        d = with(d, teller.answer("wouldFit", thing, box));
      }
    }
    return d;
  }

  private static BigInteger withWhats(BigInteger before, Teller teller, String name, int lastWhat,
      int... number) {
    BigInteger d = before;
    for (int what = 0; what <= lastWhat; what++) {
      d = with(d, number.length == 0 ? teller.answer(name, what)
          : teller.answer(name, number[0], what));
    }
    return d;
  }

  private static BigInteger with(BigInteger d, String value) {
    return d.multiply(BigInteger.valueOf(31)).add(new BigInteger(value));
  }

  // All 512 calls: 5 KINDS, 12 THINGS, then picks of the uppermost one, thrown back each time.
  private static void theLastCallThatIsPromised() {
    Teller teller = new Teller();
    for (int kind = 0; kind < 5; kind++) {
      teller.answer("kind(1, 1, 1, 1, 0, 0)");
    }
    for (int thing = 0; thing < 12; thing++) {
      teller.answer("fall", thing % 5, 5, 5);
    }
    for (int call = 18; call < 512; call += 2) {
      Check.same("call " + call + ": pick(11, 0)", teller.answer("pick(11, 0)"), "0");
      Check.same("call " + (call + 1) + ": back()", teller.answer("back()"), "11");
    }
    // 247 picks of a TOP of 12, the first one from (0, 0).
    Check.same("call 512: clock()", teller.answer("clock()"), "7.5");
  }
}
