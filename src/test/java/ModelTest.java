/** Long runs of all calls, wrong ones among them, answered by PickCell and by Model alike. */
public final class ModelTest {
  private static final int[] EDGES = {Integer.MIN_VALUE, Integer.MAX_VALUE, -1, 6, 12, 13, 100000};

  /** The document promises nothing of an object after so many calls. */
  private static final int MOST_CALLS = 512;

  private final PickCell cell = new PickCell();
  private final Model model = new Model();
  private final StringBuilder told = new StringBuilder();
  private long state;
  private int calls = 0;

  private ModelTest(long start) {
    state = start;
  }

  public static void main(String[] args) {
    for (int run = 0; run < 560; run++) {
      new ModelTest(7919L * run + 17).run(run % 4, run % 7 == 0 ? MOST_CALLS : 150);
    }
    Check.end("ModelTest");
  }

  private int random(int below) {
    state = state * 6364136223846793005L + 1442695040888963407L;
    return (int) ((state >>> 33) % below);
  }

  // Mostly 0 to below - 1; now and then something that is refused.
  private int number(int below) {
    int chance = random(60);
    if (chance == 0) {
      return EDGES[random(EDGES.length)];
    }
    return chance == 1 || below < 1 ? below + random(2) : random(below);
  }

  private void run(int style, int length) {
    int kinds = 1 + random(5);
    for (int i = 0; i < kinds; i++) {
      answer(0, style);
    }
    for (int i = 0; i < 3 + random(9); i++) {
      answer(1, style);
    }
    while (calls < length) {
      if (calls % 10 == 0) {
        both("digest()", cell::digest, model::digest);
      } else {
        answer(random(40), style);
      }
    }
  }

  private void answer(int call, int style) {
    int things = model.many(1);
    int thing = number(things);
    int tool = number(3);
    int box = number(model.many(3));
    int kind = number(model.many(0));
    if (call < 5) {
      tell(call, style, thing, number(things), kind);
    } else if (call < 13) {
      int goal = call < 10 ? free(thing) : thing;
      both("pick(" + goal + ", " + tool + ")", () -> cell.pick(goal, tool), () -> model.pick(goal, tool));
    } else if (call < 18) {
      both("put(" + box + ")", () -> cell.put(box), () -> model.put(box));
    } else if (call < 20) {
      both("back()", cell::back, model::back);
    } else if (call == 20) {
      openOrClose(style, box);
    } else if (call == 21) {
      boolean near = random(4) == 0;
      boolean slow = random(2) == 0;
      both("person(" + near + ", " + slow + ")", () -> cell.person(near, slow) ? 1 : 0,
          () -> model.person(near, slow));
    } else {
      ask(call, thing, tool, box, kind);
    }
  }

  // A thing that can be picked, if there is one: else most picks would be hindered.
  private int free(int otherwise) {
    for (int i = 0; i < model.many(0); i++) {
      int next = model.next((i + otherwise & 7) % model.many(0));
      if (next >= 0) {
        return next / 3;
      }
    }
    return otherwise;
  }

  private void tell(int call, int style, int thing, int other, int kind) {
    if (call == 0) {
      int width = 1 + number(style == 1 ? 2 : 3);
      int depth = 1 + number(style == 1 ? 1 : 3);
      int height = 1 + number(4);
      int weight = 1 + number(style == 2 ? 60 : 12);
      int skin = number(3);
      int strength = number(style == 3 ? 201 : 60);
      both("kind(" + width + ", " + depth + ", " + height + ", " + weight + ", " + skin + ", "
          + strength + ")", () -> cell.kind(width, depth, height, weight, skin, strength),
          () -> model.kind(width, depth, height, weight, skin, strength));
    } else if (call < 3) {
      int x = number(style == 0 ? 3 : 6);
      int y = number(style == 0 ? 3 : 6);
      both("fall(" + kind + ", " + x + ", " + y + ")", () -> cell.fall(kind, x, y),
          () -> model.fall(kind, x, y));
    } else if (call == 3 || random(4) > 0) {
      both("tangle(" + thing + ", " + other + ")", () -> cell.tangle(thing, other),
          () -> model.tangle(thing, other));
    } else {
      both("shake(" + thing + ")", () -> cell.shake(thing), () -> model.shake(thing));
    }
  }

  private void openOrClose(int style, int box) {
    if (random(4) == 0) {
      both("close(" + box + ")", () -> cell.close(box), () -> model.close(box));
      return;
    }
    int limit = 1;
    for (int i = 0; i < model.many(0); i++) {
      limit *= 10;
    }
    int order = style == 3 ? number(limit) : number(limit) % 44444;
    both("box(" + order + ")", () -> cell.box(order), () -> model.box(order));
  }

  private void ask(int call, int thing, int tool, int box, int kind) {
    int x = number(6);
    int y = number(6);
    int what = number(call == 29 ? 13 : call == 22 ? 7 : call == 23 ? 10 : 6);
    switch (call) {
      case 22:
        both("ofKind(" + kind + ", " + what + ")", () -> cell.ofKind(kind, what),
            () -> model.ofKind(kind, what));
        break;
      case 23:
        both("ofThing(" + thing + ", " + what + ")", () -> cell.ofThing(thing, what),
            () -> model.ofThing(thing, what));
        break;
      case 24:
        both("hinders(" + thing + ", " + tool + ")", () -> cell.hinders(thing, tool),
            () -> model.hinders(thing, tool));
        break;
      case 25:
        both("force(" + thing + ", " + tool + ")", () -> bits(cell.force(thing, tool)),
            () -> bits(model.force(thing, tool)));
        break;
      case 26:
        both("ticks(" + thing + ", " + tool + ")", () -> bits(cell.ticks(thing, tool)),
            () -> bits(model.ticks(thing, tool)));
        break;
      case 27:
        both("clock()", () -> bits(cell.clock()), () -> bits(model.clock()));
        break;
      case 28:
        both("seen(" + x + ", " + y + ")", () -> cell.seen(x, y), () -> model.seen(x, y));
        break;
      case 29:
        both("many(" + what + ")", () -> cell.many(what), () -> model.many(what));
        break;
      case 30:
        both("ofBox(" + box + ", " + what + ")", () -> cell.ofBox(box, what),
            () -> model.ofBox(box, what));
        break;
      case 31:
        both("ahead(" + thing + ")", () -> cell.ahead(thing), () -> model.ahead(thing));
        break;
      case 32:
        both("next(" + kind + ")", () -> cell.next(kind), () -> model.next(kind));
        break;
      default:
        both("wouldFit(" + thing + ", " + box + ")", () -> cell.wouldFit(thing, box),
            () -> model.wouldFit(thing, box));
    }
  }

  private static long bits(double value) {
    return Double.doubleToLongBits(value);
  }

  private void both(String call, Check.Call one, Check.Call other) {
    calls++;
    told.append("\n  ").append(call);
    String due;
    try {
      due = "" + other.answer();
    } catch (Model.Refused e) {
      due = e.name;
    }
    String got;
    try {
      got = "" + one.answer();
    } catch (RuntimeException e) {
      got = Check.thrownName(e);
    }
    Check.same(got.equals(due) ? call : told.toString(), got, due);
  }
}
