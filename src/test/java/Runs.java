import java.util.ArrayList;
import java.util.List;
import java.util.regex.Matcher;
import java.util.regex.Pattern;

/**
 * Runs of calls on a new object, each told under the sentence of the document that it tries.
 *
 * <p>A run is a text of calls, one in a row or several with ';' between them, each with the answer
 * that is due behind ':' ("!Index", "!Argument" and "!State" for the document's exceptions; a call
 * without an answer must not be refused). {a|b} stands for several calls, one with each; so does
 * 0..5, where the answers due stand one behind the other.
 */
final class Runs {
  private static final Pattern RANGE = Pattern.compile("(\\d+)\\.\\.(\\d+)");

  private Runs() {
  }

  /** After each call that is refused, or that only asks, all that can be asked must be as it was. */
  static void holds(String sentence, String run) {
    Teller teller = new Teller();
    List<String> before = new ArrayList<String>();
    for (String row : rowsOf(run)) {
      String call = callOf(row);
      String got = teller.answer(call);
      String place = placeOf(sentence, before, call);
      isDue(place, got, dueOf(row));
      if (got.startsWith("!") || Teller.isAsking(call)) {
        changesNothing(place, before, call);
      }
      before.add(call);
    }
  }

  /**
   * For runs that are too long to be told again after each call. They end with digest(): that, and
   * all that is done, must come out alike without the calls that are refused or only ask.
   */
  static void goesOn(String sentence, String run) {
    Teller teller = new Teller();
    Teller bare = new Teller();
    List<String> before = new ArrayList<String>();
    for (String row : rowsOf(run)) {
      String call = callOf(row);
      String got = teller.answer(call);
      String place = placeOf(sentence, before, call);
      isDue(place, got, dueOf(row));
      if (!got.startsWith("!") && (!Teller.isAsking(call) || call.equals("digest()"))) {
        Check.same(place + ", without those that ask or are refused,", bare.answer(call), got);
      }
      before.add(call);
    }
    Check.same(sentence + ": the last call", before.get(before.size() - 1), "digest()");
  }

  static String callOf(String row) {
    return row.substring(0, row.indexOf(')') + 1);
  }

  /** The answer that is due; empty, if the call has only to be taken. */
  static String dueOf(String row) {
    String rest = row.substring(callOf(row).length());
    return rest.isEmpty() ? "" : rest.substring(1).trim();
  }

  private static String placeOf(String sentence, List<String> before, String call) {
    return sentence + "\n  after " + String.join("; ", before) + "\n  " + call;
  }

  private static void isDue(String place, String got, String due) {
    if (due.isEmpty()) {
      Check.same(place + ", which has to be taken,", got.startsWith("!") ? got : "", "");
    } else {
      Check.same(place, got, due);
    }
  }

  /** The same call so many times, for a run. */
  static String times(int count, String call) {
    return (call + "\n").repeat(count);
  }

  private static void changesNothing(String place, List<String> before, String call) {
    Teller one = retold(before);
    Teller other = retold(before);
    other.answer(call);
    sameRows(place + ": what can be asked then", other.portrait(), one.portrait());
    sameRows(place + ": what comes of deeds then", other.sequel(), one.sequel());
  }

  private static void sameRows(String place, String got, String due) {
    String[] gotRows = got.split("\n");
    String[] dueRows = due.split("\n");
    Check.same(place + ": how many rows", gotRows.length, dueRows.length);
    for (int i = 0; i < gotRows.length && i < dueRows.length; i++) {
      Check.same(place, gotRows[i], dueRows[i]);
    }
  }

  private static Teller retold(List<String> calls) {
    Teller teller = new Teller();
    for (String call : calls) {
      teller.answer(call);
    }
    return teller;
  }

  /** A row for each call of a run. */
  static List<String> rowsOf(String run) {
    List<String> rows = new ArrayList<String>();
    for (String row : run.split("[;\n]")) {
      if (!row.isBlank()) {
        unfold(row.trim(), rows);
      }
    }
    return rows;
  }

  private static void unfold(String row, List<String> rows) {
    int start = row.indexOf('{');
    if (start < 0) {
      unfoldRange(row, rows);
      return;
    }
    int end = row.indexOf('}');
    for (String one : row.substring(start + 1, end).split("\\|")) {
      unfold(row.substring(0, start) + one + row.substring(end + 1), rows);
    }
  }

  private static void unfoldRange(String row, List<String> rows) {
    Matcher range = RANGE.matcher(callOf(row));
    if (!range.find()) {
      rows.add(row);
      return;
    }
    int first = Integer.parseInt(range.group(1));
    int last = Integer.parseInt(range.group(2));
    String[] due = dueOf(row).split(" +");
    if (due.length != last - first + 1) {
      throw new AssertionError("as many answers as calls have to stand in " + row);
    }
    for (int number = first; number <= last; number++) {
      rows.add(range.replaceFirst("" + number) + ": " + due[number - first]);
    }
  }
}
