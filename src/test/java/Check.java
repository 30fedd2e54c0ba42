/** Compares answers with those that are due, and counts the wrong ones. */
final class Check {
  /** A call of a PickCell, with its answer made long. */
  interface Call {
    long answer();
  }

  private static int wrong = 0;

  private Check() {
  }

  static void same(String call, long got, long due) {
    if (got != due) {
      report(call + " answered " + got + ", due is " + due);
    }
  }

  static void same(String call, double got, double due) {
    if (got != due) {
      report(call + " answered " + got + ", due is " + due);
    }
  }

  static void same(String call, boolean got, boolean due) {
    if (got != due) {
      report(call + " answered " + got + ", due is " + due);
    }
  }

  static void same(String call, String got, String due) {
    if (!got.equals(due)) {
      report(call + " answered " + got + ", due is " + due);
    }
  }

  static void noSuch(PickCell cell, String text, Call call) {
    refused(cell, text, IndexOutOfBoundsException.class, call);
  }

  static void badArgument(PickCell cell, String text, Call call) {
    refused(cell, text, IllegalArgumentException.class, call);
  }

  static void badState(PickCell cell, String text, Call call) {
    refused(cell, text, IllegalStateException.class, call);
  }

  /** The call must throw just that exception, and change nothing that can be asked. */
  static void refused(PickCell cell, String text, Class<?> due, Call call) {
    String before = portrait(cell);
    String got;
    try {
      got = "" + call.answer();
    } catch (RuntimeException e) {
      got = thrownName(e);
    }
    same(text, got, due.getName());
    same("all that can be asked after " + text, portrait(cell), before);
  }

  /** What was thrown; told apart, if it came not by a throw in PickCell itself. */
  static String thrownName(RuntimeException e) {
    String name = e.getClass().getName();
    String place = e.getStackTrace()[0].getClassName();
    return place.equals("PickCell") || place.startsWith("PickCell$") ? name : name + " of " + place;
  }

  /** All that can be asked of a cell, as a text. */
  static String portrait(PickCell cell) {
    StringBuilder text = new StringBuilder();
    for (int what = 0; what <= 12; what++) {
      text.append(cell.many(what)).append(' ');
    }
    text.append(cell.clock()).append(' ').append(cell.digest());
    for (int y = 0; y < 6; y++) {
      for (int x = 0; x < 6; x++) {
        text.append(' ').append(cell.seen(x, y));
      }
    }
    for (int kind = 0; kind < cell.many(0); kind++) {
      appendKind(text.append("\nkind "), cell, kind);
    }
    for (int thing = 0; thing < cell.many(1); thing++) {
      appendThing(text.append("\nthing "), cell, thing);
    }
    for (int box = 0; box < cell.many(3); box++) {
      appendBox(text.append("\nbox "), cell, box);
    }
    return text.toString();
  }

  private static void appendKind(StringBuilder text, PickCell cell, int kind) {
    for (int what = 0; what <= 6; what++) {
      text.append(cell.ofKind(kind, what)).append(' ');
    }
    text.append(cell.next(kind));
  }

  private static void appendThing(StringBuilder text, PickCell cell, int thing) {
    for (int what = 0; what <= 9; what++) {
      text.append(cell.ofThing(thing, what)).append(' ');
    }
    for (int tool = 0; tool <= 2; tool++) {
      text.append(cell.hinders(thing, tool)).append(' ');
      text.append(cell.force(thing, tool)).append(' ');
      text.append(cell.ticks(thing, tool)).append(' ');
    }
    text.append(cell.ahead(thing));
  }

  private static void appendBox(StringBuilder text, PickCell cell, int box) {
    for (int what = 0; what <= 5; what++) {
      text.append(cell.ofBox(box, what)).append(' ');
    }
    for (int thing = 0; thing < cell.many(1); thing++) {
      text.append(cell.wouldFit(thing, box)).append(' ');
    }
  }

  static void end(String test) {
    System.out.println(test + (wrong == 0 ? ": all answers are as due" : ": " + wrong + " wrong"));
    if (wrong != 0) {
      System.exit(1);
    }
  }

  private static void report(String text) {
    wrong++;
    if (wrong <= 20) {
      System.out.println(text);
    }
  }
}
