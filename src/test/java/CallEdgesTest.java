/** The rows "Returns" and "Throws" of the promises 1 to 11: what is told, and what is done. */
public final class CallEdgesTest {
  public static void main(String[] args) {
    promise1();
    promise2();
    promise3();
    promise4();
    promise4Throws();
    promise5();
    promise6();
    promise7();
    promise8();
    promise8Throws();
    promise9();
    promise9Throws();
    promise10();
    promise11();
    Check.end("CallEdgesTest");
  }

  private static void promise1() {
    Runs.holds("Promise 1: Creates a cell without KINDS.", """
        many({0|1|2|3|4|6|7|8|9|10|11|12}): 0
        many(5): -1
        clock(): 0.0
        seen({0|2|5}, {0|3|5}): -1
        ofKind(0, 0): !Index; ofThing(0, 0): !Index; ofBox(0, 0): !Index
        person(false, false): false
        """);
    Runs.holds("Promise 1: nothing can be done in a new cell", """
        fall(0, 0, 0): !Index; tangle(0, 1): !Index; tangle(0, 0): !Index; shake(0): !Index
        box(1): !Argument; pick(0, 0): !Index; put(0): !Index; back(): !State; close(0): !Index
        hinders(0, 0): !Index; force(0, 0): !Index; ticks(0, 0): !Index
        ahead(0): !Index; next(0): !Index; wouldFit(0, 0): !Index
        """);
    Runs.holds("Promise 1: a new cell has nothing of another one", """
        many({0|1|3}): 0
        kind(1, 1, 1, 1, 0, 0): 0
        fall(0, 2, 2): 0
        many(1): 1
        """);
  }

  private static void promise2() {
    Runs.holds("Promise 2, Throws: !Argument goes before !State, as there are 5 KINDS",
        Full.CELL + """
        kind({0|4|-1|MIN|MAX}, 1, 1, 1, 0, 0): !Argument
        kind(1, {0|4|MIN|MAX}, 1, 1, 0, 0): !Argument
        kind(1, 1, {0|5|MIN|MAX}, 1, 0, 0): !Argument
        kind(1, 1, 1, {0|61|MIN|MAX}, 0, 0): !Argument
        kind(1, 1, 1, 1, {-1|3|MIN|MAX}, 0): !Argument
        kind(1, 1, 1, 1, 0, {-1|201|MIN|MAX}): !Argument
        kind(1, 1, 1, 1, 0, 0): !State; kind(3, 3, 4, 60, 2, 200): !State
        many(0): 5
        """);
    Runs.holds("Promise 2, Throws: several arguments that are not right", """
        kind(0, 0, 0, 0, -1, -1): !Argument
        kind(4, 4, 5, 61, 3, 201): !Argument
        kind({MIN|MAX}, MAX, MIN, MAX, {MIN|MAX}, MIN): !Argument
        many(0): 0
        """);
  }

  private static void promise3() {
    Runs.holds("Promise 3, Throws: each alone", """
        kind(2, 1, 1, 1, 0, 0): 0
        fall({1|-1|MIN|MAX}, 0, 0): !Index
        fall(0, {5|-1|MIN|MAX}, 0): !Argument
        fall(0, 0, {6|-1|MIN|MAX}): !Argument
        fall(0, 4, 5): 0
        """
        + Runs.times(11, "fall(0, 4, 5)") + """
        fall(0, 4, 5): !State
        many(1): 12
        """);
    Runs.holds("Promise 3, Throws: !Index before !Argument, and both before !State", Full.CELL + """
        fall({5|-1|MIN|MAX}, {9|MIN|MAX}, 0): !Index
        fall({5|-1}, 0, 0): !Index
        fall(0, {6|-1|MIN|MAX}, 0): !Argument; fall(4, 3, {4|-1|MIN|MAX}): !Argument
        fall({0|4}, 0, 0): !State
        """);
    Runs.holds("Promise 3, Throws: !Index before !Argument", """
        fall(0, 9, 9): !Index
        kind(1, 1, 1, 1, 0, 0): 0
        fall(1, 6, 6): !Index; fall(-1, -1, -1): !Index; fall(MIN, MIN, MIN): !Index
        fall(MAX, MAX, MAX): !Index
        """);
  }

  private static void promise4() {
    Runs.holds("Promise 4: Returns with how many the first one is TANGLED then.", """
        kind(1, 1, 1, 1, 0, 0): 0
        fall(0, {0|1|2|3}, 0)
        tangle(0, 1): 1; tangle(0, 2): 2; tangle(3, 0): 1; tangle(0, 3): 3; tangle(3, 0): 1
        tangle(3, 2): 2
        ofThing(0, 8): 14; ofThing(1, 8): 1; ofThing(2, 8): 9; ofThing(3, 8): 5
        """);
  }

  private static void promise4Throws() {
    Runs.holds("Promise 4, Throws: each alone", """
        kind(1, 1, 1, 1, 0, 9): 0
        fall(0, {0|1|2|3}, 0)
        tangle({4|-1|MIN|MAX}, 0): !Index
        tangle(0, {4|-1|MIN|MAX}): !Index
        tangle({0|3}, {4|-1}): !Index
        tangle(0, 0): !Argument; tangle(3, 3): !Argument
        pick(1, 0): 0
        tangle(1, 0): !State; tangle(0, 1): !State
        box(9): 0; put(0): 1
        tangle(1, 0): !State; tangle(0, 1): !State
        pick(2, 0): 0
        tangle(1, 2): !State; tangle(2, 1): !State
        tangle(0, 3): 1
        """);
    Runs.holds("Promise 4, Throws: !Index before !Argument and !State, !Argument before !State",
        Full.CELL + "pick(11, 0): 0\n" + """
        tangle(12, 12): !Index; tangle(-1, -1): !Index; tangle(MIN, MIN): !Index
        tangle(MAX, MAX): !Index
        tangle({9|11}, {12|-1}): !Index; tangle({12|-1}, {9|11}): !Index
        tangle(9, 9): !Argument; tangle(11, 11): !Argument
        tangle(9, 11): !State; tangle(11, 9): !State; tangle({9|11}, 0): !State
        """);
  }

  private static void promise5() {
    Runs.holds("Promise 5: Returns with how many it was TANGLED.", """
        kind(1, 1, 1, 1, 0, 9): 0
        shake({0|-1}): !Index
        fall(0, {0|1|2}, 0)
        shake({3|-1|MIN|MAX}): !Index
        shake(0): 0
        tangle(0, 1): 1; tangle(0, 2): 2
        shake({3|-1|MIN|MAX}): !Index
        ofThing(0, 8): 6
        shake(1): 1
        ofThing(0, 8): 4; ofThing(1, 8): 0; ofThing(2, 8): 1
        shake(0): 1; shake({0|1|2}): 0
        """);
    Runs.holds("Promise 5: also one that is not in the BIN can be SHAKEN", """
        kind(1, 1, 1, 1, 0, 9): 0
        fall(0, {0|1|2}, 0); tangle(0, 1): 1; tangle(1, 2): 2
        pick(0, 0): 0
        shake(0): 0
        ofThing(1, 8): 4
        box(1): 0; put(0): 1
        shake(0): 0
        ofThing(1, 8): 4
        """);
    Runs.holds("Promise 5, Throws: if there is no such THING, of 12", Full.CELL + """
        shake({12|-1|MIN|MAX}): !Index
        shake(6): 1; shake(10): 0; shake(11): 0
        """);
  }

  private static void promise6() {
    Runs.holds("Promise 6: Returns whether somebody was NEAR.", """
        person(false, false): false
        person(true, false): false
        person(true, true): true
        person(false, true): true
        person(false, true): false
        person(true, true): false
        person(false, false): true
        person(false, true): false
        person(false, false): false
        """);
    Runs.holds("Promise 6: whether somebody is NEAR, and whether the arm is SLOW", """
        kind(1, 1, 4, 1, 1, 0): 0; fall(0, 2, 1): 0
        hinders(0, 1): 0; ticks(0, 0): 5.0
        person(true, false): false; hinders(0, 1): 5; ticks(0, 0): 5.0
        person(true, true): true; hinders(0, 1): 5; ticks(0, 0): 10.0
        person(false, true): true; hinders(0, 1): 0; ticks(0, 0): 10.0
        person(false, false): false; hinders(0, 1): 0; ticks(0, 0): 5.0
        """);
  }

  private static void promise7() {
    Runs.holds("Promise 7, Throws: each alone, as there are 2 KINDS", """
        kind(1, 1, 1, 1, 0, 0): 0; kind(1, 1, 1, 1, 0, 0): 1
        box({0|-1|100000|MIN|MAX}): !Argument
        box({100|101|199|900|1000|1001|10000|10011|99900|99999}): !Argument
        many(3): 0
        box(1): 0; box(99): 1; box(10): 2; box(90): 3
        box(1): !State
        ofBox(1, 2): 18; many(3): 4
        """);
    Runs.holds("Promise 7, Throws: each alone, as there are 5 KINDS", """
        kind({1|1|1|1|1}, 1, 1, 1, 0, 0)
        box({0|-1|100000|100001|MIN|MAX}): !Argument
        box(99999): 0; box(10000): 1; box(1): 2
        ofBox(0, 2): 45; ofBox(1, 2): 1
        """);
    Runs.holds("Promise 7, Throws: !Argument before !State, as there are 4 BOXES", Full.CELL + """
        box({0|-1|100000|MIN|MAX}): !Argument
        box({1|99999}): !State
        """);
    Runs.holds("Promise 7, Throws: !Argument (of a KIND that there is not) before !State", """
        kind(1, 1, 1, 1, 0, 0): 0
        box(1): 0; box(2): 1; box(3): 2; box(4): 3
        box({10|19|90000}): !Argument
        box(9): !State
        kind(1, 1, 1, 1, 0, 0): 1
        box({10|19}): !State; box({100|90000}): !Argument
        """);
  }

  private static void promise8() {
    Runs.holds("Promise 8: Returns 0 if it was TAKEN, -2 if it SLIPPED, or what hindered", """
        kind(1, 1, 1, 6, 0, 0): 0
        fall(0, 1, 1): 0
        pick(0, 2): 3
        pick(0, 1): 0; back(): 0
        pick(0, 0): 0; back(): 0
        pick(0, 0): -2
        """);
    Runs.holds("Promise 8: of tools 0 to 2", """
        kind(1, 1, 1, 1, 0, 0): 0; kind(1, 1, 1, 1, 2, 0): 1
        fall(0, 1, 1): 0; fall(1, 3, 3): 1
        pick(0, 0): 0; many(6): 0; back(): 0
        pick(0, 1): 0; many(6): 1; back(): 0
        pick(1, 2): 0; many(6): 2
        """);
  }

  private static void promise8Throws() {
    Runs.holds("Promise 8, Throws: each alone", """
        kind(1, 1, 1, 1, 0, 9): 0
        box(9): 0
        fall(0, 1, 1): 0; fall(0, 3, 3): 1
        pick({2|-1|MIN|MAX}, 0): !Index
        pick(0, {3|-1|MIN|MAX}): !Argument
        pick(0, 0): 0
        pick(1, 0): !State
        pick(0, 0): !State
        put(0): 1
        pick(0, 0): !State
        pick(1, 0): 0
        """);
    Runs.holds("Promise 8, Throws: !Index before !Argument and !State, !Argument before !State",
        Full.CELL + "pick(11, 0): 0\n" + """
        pick({12|-1|MIN|MAX}, {3|-1}): !Index
        pick({12|-1|MIN|MAX}, 0): !Index
        pick({0|9|11}, {3|-1|MIN|MAX}): !Argument
        pick({0|4|9|11}, {0|2}): !State
        """);
  }

  private static void promise9() {
    Runs.holds("Promise 9: Returns how many THINGS are in it then; -2 if there is no need, -3 if it"
        + " would CRUSH something.", """
        kind(1, 1, 1, 2, 0, 3): 0; kind(1, 1, 1, 1, 0, 200): 1
        box(13): 0; box(9): 1
        fall(0, 0, 0): 0; fall(0, 2, 0): 1; fall(1, 4, 0): 2; fall(1, 0, 2): 3; fall(0, 2, 2): 4
        pick(0, 0): 0; put(0): 1
        pick(1, 0): 0; put(0): 2
        pick(4, 0): 0; put(0): -3; put(0): -3; put(1): 1
        pick(2, 0): 0; put(1): -2; put(0): 3
        pick(3, 0): 0; put(0): -2; put(1): -2
        ofBox(0, 0): 3; ofBox(1, 0): 1; many(5): 3
        """);
  }

  private static void promise9Throws() {
    Runs.holds("Promise 9, Throws: each alone", """
        kind(1, 1, 1, 1, 0, 9): 0
        put({0|-1|MIN|MAX}): !Index
        fall(0, 1, 1): 0
        box(1): 0
        put(0): !State
        box(2): 1
        pick(0, 0): 0
        put({2|-1|MIN|MAX}): !Index
        close(0): 1
        put(0): !State
        many(5): 0
        put(1): 1
        put(1): !State
        close(1): 1
        put({0|1}): !State
        """);
    Runs.holds("Promise 9, Throws: !Index before !State (the arm HAS none)", Full.CELL + """
        put({4|-1|MIN|MAX}): !Index
        put({0|1|2|3}): !State
        """);
    Runs.holds("Promise 9, Throws: of 4 BOXES, the last one not open",
        Full.CELL + "pick(11, 0): 0\n" + """
        put({4|-1|MIN|MAX}): !Index
        put(3): !State
        put(2): -2
        put(0): 2
        put({0|1|2|3}): !State
        """);
  }

  private static void promise10() {
    Runs.holds("Promise 10: Returns its GROUND then; !State if it HAS none", """
        back(): !State
        kind(1, 1, 4, 1, 0, 9): 0
        box(1): 0
        fall(0, 1, 1): 0
        back(): !State
        pick(0, 0): 0
        back(): 0
        back(): !State
        pick(0, 0): 0
        fall(0, 1, 1): 1; fall(0, 1, 1): 2
        back(): 8
        ofThing(0, 3): 8; ofThing(0, 4): 12
        pick(0, 0): 0; put(0): 1
        back(): !State
        pick(2, 2): 3
        back(): !State
        """);
    Runs.holds("Promise 10, Throws: as there is all of everything", Full.CELL + """
        back(): !State
        pick(11, 0): 0
        back(): 0
        back(): !State
        """);
  }

  private static void promise11() {
    Runs.holds("Promise 11: Returns how many THINGS it lacks.", """
        close({0|-1|MIN|MAX}): !Index
        kind(1, 1, 1, 1, 0, 9): 0; kind(1, 1, 1, 1, 0, 9): 1
        box(99): 0; box(21): 1; box(1): 2
        fall(0, 0, 0): 0; fall(1, 2, 0): 1; fall(0, 4, 0): 2
        close({3|-1|MIN|MAX}): !Index
        close(0): 18
        pick(0, 0): 0; put(1): 1; pick(1, 0): 0; put(1): 2
        close(1): 1
        pick(2, 0): 0; put(2): 1
        close(2): 0
        close({0|1|2}): !State
        ofBox(0, 2): 18; ofBox(1, 2): 1; ofBox(2, 2): 0
        """);
    Runs.holds("Promise 11, Throws: of 4 BOXES, the last one not open", Full.CELL + """
        close({4|-1|MIN|MAX}): !Index
        close(3): !State
        close(0): 14
        close({0|3}): !State
        """);
  }
}
