/**
 * Tells calls, by their names, to one new PickCell. It counts them, as the document promises
 * nothing after the 512th.
 */
final class Teller {
  private static final int MOST_CALLS = 512;

  private final PickCell cell = new PickCell();
  private int calls = 0;

  /** The answer to a call that is written as a text; MIN and MAX are the ends of int. */
  String answer(String call) {
    String[] texts = call.substring(call.indexOf('(') + 1, call.indexOf(')')).split(", *");
    boolean isBare = texts.length == 1 && texts[0].isEmpty();
    int[] arguments = new int[isBare ? 0 : texts.length];
    for (int i = 0; i < arguments.length; i++) {
      arguments[i] = numberOf(texts[i]);
    }
    return answer(call.substring(0, call.indexOf('(')), arguments);
  }

  /** The answer as a text; "!Index", "!Argument" and "!State" for the document's exceptions. */
  String answer(String name, int... arguments) {
    calls++;
    if (calls > MOST_CALLS) {
      throw new AssertionError("a run has more than 512 calls, and the object is free then");
    }
    try {
      return "" + tell(name, arguments);
    } catch (RuntimeException e) {
      return "!" + shortNameOf(e);
    }
  }

  private static int numberOf(String text) {
    switch (text) {
      case "MIN":
        return Integer.MIN_VALUE;
      case "MAX":
        return Integer.MAX_VALUE;
      case "true":
        return 1;
      case "false":
        return 0;
      default:
        return Integer.parseInt(text);
    }
  }

  private static String shortNameOf(RuntimeException e) {
    switch (Check.thrownName(e)) {
      case "java.lang.IndexOutOfBoundsException":
        return "Index";
      case "java.lang.IllegalArgumentException":
        return "Argument";
      case "java.lang.IllegalStateException":
        return "State";
      default:
        return Check.thrownName(e);
    }
  }

  private Object tell(String name, int[] a) {
    switch (name) {
      case "kind":
        return cell.kind(a[0], a[1], a[2], a[3], a[4], a[5]);
      case "fall":
        return cell.fall(a[0], a[1], a[2]);
      case "tangle":
        return cell.tangle(a[0], a[1]);
      case "shake":
        return cell.shake(a[0]);
      case "person":
        return cell.person(a[0] == 1, a[1] == 1);
      case "box":
        return cell.box(a[0]);
      case "pick":
        return cell.pick(a[0], a[1]);
      case "put":
        return cell.put(a[0]);
      case "back":
        return cell.back();
      case "close":
        return cell.close(a[0]);
      default:
        return ask(name, a);
    }
  }

  private Object ask(String name, int[] a) {
    switch (name) {
      case "ofKind":
        return cell.ofKind(a[0], a[1]);
      case "ofThing":
        return cell.ofThing(a[0], a[1]);
      case "hinders":
        return cell.hinders(a[0], a[1]);
      case "force":
        return cell.force(a[0], a[1]);
      case "ticks":
        return cell.ticks(a[0], a[1]);
      case "clock":
        return cell.clock();
      case "seen":
        return cell.seen(a[0], a[1]);
      case "ofBox":
        return cell.ofBox(a[0], a[1]);
      case "many":
        return cell.many(a[0]);
      case "ahead":
        return cell.ahead(a[0]);
      case "next":
        return cell.next(a[0]);
      case "wouldFit":
        return cell.wouldFit(a[0], a[1]);
      case "digest":
        return cell.digest();
      default:
        throw new AssertionError("there is no call " + name);
    }
  }

  /** Whether a call only asks, so that it must not change anything. */
  static boolean isAsking(String call) {
    String name = call.substring(0, call.indexOf('('));
    return " ofKind ofThing hinders force ticks clock seen ofBox many ahead next wouldFit digest "
        .contains(" " + name + " ");
  }

  /** All that can be asked now; at most 403 calls. */
  String portrait() {
    StringBuilder text = new StringBuilder();
    append(text, "clock");
    append(text, "digest");
    appendEach(text, "many", 12);
    for (int y = 0; y < 6; y++) {
      for (int x = 0; x < 6; x++) {
        append(text, "seen", x, y);
      }
    }
    int kinds = cell.many(0);
    int things = cell.many(1);
    int boxes = cell.many(3);
    for (int kind = 0; kind < kinds; kind++) {
      appendEach(text, "ofKind", 6, kind);
      append(text, "next", kind);
    }
    for (int thing = 0; thing < things; thing++) {
      appendEach(text, "ofThing", 9, thing);
      appendEach(text, "hinders", 2, thing);
      appendEach(text, "force", 2, thing);
      appendEach(text, "ticks", 2, thing);
      append(text, "ahead", thing);
    }
    for (int box = 0; box < boxes; box++) {
      appendEach(text, "ofBox", 5, box);
      for (int thing = 0; thing < things; thing++) {
        append(text, "wouldFit", thing, box);
      }
    }
    calls += 3;
    return text.toString();
  }

  /** What comes of deeds that bring out what can't be asked yet: NEAR, SLOW, who fell last. */
  String sequel() {
    StringBuilder text = new StringBuilder();
    append(text, "kind", 1, 1, 1, 1, 0, 0);
    append(text, "fall", 0, 0, 0);
    int things = Integer.parseInt(answer("many", 1));
    append(text, "ticks", things - 1, 1);
    append(text, "person", 0, 0);
    append(text, "back");
    append(text, "box", 1);
    for (int thing = 0; thing < things; thing++) {
      append(text, "pick", thing, thing % 3);
      append(text, "put", thing % 4);
      append(text, "back");
    }
    append(text, "digest");
    return text.toString();
  }

  private void appendEach(StringBuilder text, String name, int lastWhat, int... numbers) {
    for (int what = 0; what <= lastWhat; what++) {
      int[] arguments = java.util.Arrays.copyOf(numbers, numbers.length + 1);
      arguments[numbers.length] = what;
      append(text, name, arguments);
    }
  }

  private void append(StringBuilder text, String name, int... arguments) {
    String list = java.util.Arrays.toString(arguments);
    text.append(name).append('(').append(list, 1, list.length() - 1).append("): ");
    text.append(answer(name, arguments)).append('\n');
  }
}
