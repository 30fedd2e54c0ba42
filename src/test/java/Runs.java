import java.util.ArrayList;
import java.util.List;

/**
 * Runs of calls on a new object, each told under the sentence of the document that it tries.
 *
 * <p>A run is a text of calls, one in a row or several with ';' between them, each with the answer
 * that is due behind ':' ("!Index", "!Argument" and "!State" for the document's exceptions; a call
 * without an answer must not be refused). {a|b} stands for several calls, one with each. After each
 * call that is refused, or that only asks, all that can be asked must be as it was.
 */
final class Runs {
  private Runs() {
  }

  static void holds(String sentence, String run) {
    Teller teller = new Teller();
    List<String> before = new ArrayList<String>();
    for (String row : rowsOf(run)) {
      String call = row.substring(0, row.indexOf(')') + 1);
      String due = row.substring(call.length());
      String got = teller.answer(call);
      boolean isRefused = got.startsWith("!");
      String place = sentence + "\n  after " + String.join("; ", before) + "\n  " + call;
      if (due.isEmpty()) {
        Check.same(place + ", which has to be taken,", isRefused ? got : "", "");
      } else {
        Check.same(place, got, due.substring(1).trim());
      }
      if (isRefused || Teller.isAsking(call)) {
        changesNothing(place, before, call);
      }
      before.add(call);
    }
  }

  /** The same call so many times, for a run. */
  static String times(int count, String call) {
    return (call + "\n").repeat(count);
  }

  private static void changesNothing(String place, List<String> before, String call) {
    Teller one = retold(before);
    Teller other = retold(before);
    other.answer(call);
    sameRows(place + ": what can be asked then", other.portrait(), one.portrait());
    sameRows(place + ": what comes of deeds then", other.sequel(), one.sequel());
  }

  private static void sameRows(String place, String got, String due) {
    String[] gotRows = got.split("\n");
    String[] dueRows = due.split("\n");
    Check.same(place + ": how many rows", gotRows.length, dueRows.length);
    for (int i = 0; i < gotRows.length && i < dueRows.length; i++) {
      Check.same(place, gotRows[i], dueRows[i]);
    }
  }

  private static Teller retold(List<String> calls) {
    Teller teller = new Teller();
    for (String call : calls) {
      teller.answer(call);
    }
    return teller;
  }

  private static List<String> rowsOf(String run) {
    List<String> rows = new ArrayList<String>();
    for (String row : run.split("[;\n]")) {
      if (!row.isBlank()) {
        unfold(row.trim(), rows);
      }
    }
    return rows;
  }

  private static void unfold(String row, List<String> rows) {
    int start = row.indexOf('{');
    if (start < 0) {
      rows.add(row);
      return;
    }
    int end = row.indexOf('}');
    for (String one : row.substring(start + 1, end).split("\\|")) {
      unfold(row.substring(0, start) + one + row.substring(end + 1), rows);
    }
  }
}
