/** Compares answers with those that are due, and counts the wrong ones. */
final class Check {
  /** A call of a PickCell, with its answer made long. */
  interface Call {
    long answer();
  }

  private static int wrong = 0;

  private Check() {
  }

  static void same(String call, long got, long due) {
    if (got != due) {
      report(call + " answered " + got + ", due is " + due);
    }
  }

  static void same(String call, double got, double due) {
    if (got != due) {
      report(call + " answered " + got + ", due is " + due);
    }
  }

  static void same(String call, boolean got, boolean due) {
    if (got != due) {
      report(call + " answered " + got + ", due is " + due);
    }
  }

  static void same(String call, String got, String due) {
    if (!got.equals(due)) {
      report(call + " answered " + got + ", due is " + due);
    }
  }

  static void noSuch(PickCell cell, String text, Call call) {
    refused(cell, text, IndexOutOfBoundsException.class, call);
  }

  static void badArgument(PickCell cell, String text, Call call) {
    refused(cell, text, IllegalArgumentException.class, call);
  }

  static void badState(PickCell cell, String text, Call call) {
    refused(cell, text, IllegalStateException.class, call);
  }

  /** The call must throw just that exception, and leave the checksum and the CLOCK as they are. */
  private static void refused(PickCell cell, String text, Class<?> due, Call call) {
    long digest = cell.digest();
    double clock = cell.clock();
    String got;
    try {
      got = "" + call.answer();
    } catch (RuntimeException e) {
      got = thrownName(e);
    }
    same(text, got, due.getName());
    same("digest() after " + text, cell.digest(), digest);
    same("clock() after " + text, cell.clock(), clock);
  }

  /** What was thrown; told apart, if it came not by a throw in PickCell itself. */
  static String thrownName(RuntimeException e) {
    String name = e.getClass().getName();
    String place = e.getStackTrace()[0].getClassName();
    return place.equals("PickCell") || place.startsWith("PickCell$") ? name : name + " of " + place;
  }

  static void end(String test) {
    System.out.println(test + (wrong == 0 ? ": all answers are as due" : ": " + wrong + " wrong"));
    if (wrong != 0) {
      System.exit(1);
    }
  }

  private static void report(String text) {
    wrong++;
    if (wrong <= 20) {
      System.out.println(text);
    }
  }
}
