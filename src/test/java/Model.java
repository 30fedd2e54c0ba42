import java.util.ArrayList;
import java.util.HashSet;
import java.util.List;
import java.util.Set;

/**
 * The document told a second time, as plainly as can be: sets of cells as bits, and nothing kept
 * that can be found anew. Its calls are those of PickCell; where that one throws, it throws Refused.
 */
final class Model {
  static final class Refused extends RuntimeException {
    private static final long serialVersionUID = 1L;
    final String name;

    Refused(Class<?> due) {
      super(due.getName());
      name = due.getName();
    }
  }

  private static final class Thing {
    int number;
    int[] kind;
    int kindNumber;
    int x;
    int y;
    int ground;
    int order;
    int where;
    int slips;
    Set<Thing> tangles = new HashSet<Thing>();

    int top() {
      return ground + kind[2];
    }

    long cells() {
      return rectangle(x, y, kind[0], kind[1]);
    }
  }

  private static final class Box {
    int[] wished = new int[5];
    List<Thing> inside = new ArrayList<Thing>();
    boolean open = true;
  }

  private final List<int[]> kinds = new ArrayList<int[]>();
  private final List<Thing> all = new ArrayList<Thing>();
  private final List<Box> boxes = new ArrayList<Box>();
  private int armX;
  private int armY;
  private int tool;
  private int draw;
  private int slips;
  private int hindered;
  private int falls;
  private boolean near;
  private boolean slow;
  private double clock;
  private Thing held;

  private static void index(boolean holds) {
    if (!holds) {
      throw new Refused(IndexOutOfBoundsException.class);
    }
  }

  private static void argument(boolean holds) {
    if (!holds) {
      throw new Refused(IllegalArgumentException.class);
    }
  }

  private static void state(boolean holds) {
    if (!holds) {
      throw new Refused(IllegalStateException.class);
    }
  }

  // Eight by eight cells, one bit each: the bin and a rim around it. What goes beyond the rim
  // wraps round to bits of the rim, so it is outside of the bin as well.
  private static long rectangle(int x, int y, int width, int depth) {
    long cells = 0;
    for (int i = 0; i < width; i++) {
      for (int j = 0; j < depth; j++) {
        cells |= 1L << (x + i + 1 + 8 * (y + j + 1));
      }
    }
    return cells;
  }

  private static boolean inside(long cells) {
    return (cells & ~rectangle(0, 0, 6, 6)) == 0;
  }

  private static boolean meet(long one, long other) {
    return (one & other) != 0;
  }

  private List<Thing> bin() {
    List<Thing> inBin = new ArrayList<Thing>();
    for (Thing thing : all) {
      if (thing.where == 0) {
        inBin.add(thing);
      }
    }
    return inBin;
  }

  private Thing thing(int number) {
    index(number >= 0 && number < all.size());
    return all.get(number);
  }

  private Box boxOf(int number) {
    index(number >= 0 && number < boxes.size());
    return boxes.get(number);
  }

  private int topOver(long cells) {
    int top = 0;
    for (Thing thing : bin()) {
      if (meet(thing.cells(), cells)) {
        top = Math.max(top, thing.top());
      }
    }
    return top;
  }

  private void drop(Thing thing, int x, int y) {
    thing.where = -1;
    thing.ground = topOver(rectangle(x, y, thing.kind[0], thing.kind[1]));
    thing.x = x;
    thing.y = y;
    thing.order = ++falls;
    thing.where = 0;
  }

  private List<Thing> lyingOn(Thing under) {
    List<Thing> lying = new ArrayList<Thing>();
    if (under.where != 0) {
      return lying;
    }
    for (Thing thing : bin()) {
      if (meet(thing.cells(), under.cells()) && thing.ground >= under.top()
          && thing.order > under.order) {
        lying.add(thing);
      }
    }
    return lying;
  }

  private static int set(Iterable<Thing> things) {
    int sum = 0;
    for (Thing thing : things) {
      sum += (int) Math.pow(2, thing.number);
    }
    return sum;
  }

  private Thing seenThing(int x, int y) {
    Thing best = null;
    for (Thing thing : bin()) {
      if (meet(thing.cells(), rectangle(x, y, 1, 1)) && (best == null || thing.top() > best.top())) {
        best = thing;
      }
    }
    if (best == null) {
      return null;
    }
    for (Thing thing : bin()) {
      boolean beside = meet(thing.cells(), rectangle(x - 1, y, 1, 1))
          || meet(thing.cells(), rectangle(x + 1, y, 1, 1))
          || meet(thing.cells(), rectangle(x, y - 1, 1, 1))
          || meet(thing.cells(), rectangle(x, y + 1, 1, 1));
      if (beside && thing.top() - best.top() > 3) {
        return null;
      }
    }
    return best;
  }

  private int seenCells(Thing thing) {
    int cells = 0;
    for (int y = 0; y < 6; y++) {
      for (int x = 0; x < 6; x++) {
        if (thing.where == 0 && seenThing(x, y) == thing) {
          cells++;
        }
      }
    }
    return cells;
  }

  private boolean room(Thing thing, long side) {
    if (!inside(side)) {
      return false;
    }
    for (Thing other : bin()) {
      if (meet(other.cells(), side) && other.top() > thing.ground) {
        return false;
      }
    }
    return true;
  }

  private float holds(Thing thing, int by) {
    int width = thing.kind[0];
    int depth = thing.kind[1];
    if (by == 0) {
      return thing.kind[4] == 0 ? 6.5f * seenCells(thing) : 0f;
    }
    if (by == 2) {
      return thing.kind[4] == 2 ? 9f * thing.kind[2] : 0f;
    }
    boolean inX = room(thing, rectangle(thing.x - 1, thing.y, 1, depth))
        && room(thing, rectangle(thing.x + width, thing.y, 1, depth));
    boolean inY = room(thing, rectangle(thing.x, thing.y - 1, width, 1))
        && room(thing, rectangle(thing.x, thing.y + depth, width, 1));
    float fingers = inX || inY ? 18f + 4f * thing.kind[2] : 0f;
    return thing.kind[4] == 0 ? fingers * 0.5f : fingers;
  }

  private float lift(Thing thing) {
    float lift = thing.kind[3];
    for (Thing other : thing.tangles) {
      lift += other.kind[3];
    }
    return lift;
  }

  private int hindrance(Thing thing, int by) {
    float share = (float) seenCells(thing) / (float) (thing.kind[0] * thing.kind[1]);
    if (!lyingOn(thing).isEmpty()) {
      return 1;
    }
    if (share < 0.5f) {
      return 2;
    }
    if (holds(thing, by) == 0f) {
      return 3;
    }
    if (holds(thing, by) < lift(thing)) {
      return 4;
    }
    return near ? 5 : 0;
  }

  private double way(Thing thing, int by) {
    int way = Math.max(Math.abs(thing.x - armX), Math.abs(thing.y - armY));
    double ticks = way * 1.5 + Math.max(0.0, 12.0 - thing.top()) * 0.25;
    if (by != tool) {
      ticks += 8.0;
    }
    return slow ? ticks * 2.0 : ticks;
  }

  private void free(Thing thing) {
    for (Thing other : all) {
      other.tangles.remove(thing);
    }
    thing.tangles.clear();
  }

  private int lacks(Box box) {
    int lacks = 0;
    for (int kind = 0; kind < 5; kind++) {
      lacks += box.wished[kind] - inside(box, kind);
    }
    return lacks;
  }

  private static int inside(Box box, int kind) {
    int many = 0;
    for (Thing thing : box.inside) {
      many += thing.kindNumber == kind ? 1 : 0;
    }
    return many;
  }

  private int refusal(Box box, Thing thing) {
    if (inside(box, thing.kindNumber) >= box.wished[thing.kindNumber]) {
      return -2;
    }
    List<Thing> with = new ArrayList<Thing>(box.inside);
    with.add(thing);
    for (int i = 0; i < box.inside.size(); i++) {
      int weight = 0;
      for (int j = i + 1; j < with.size(); j++) {
        weight += with.get(j).kind[3];
      }
      if (weight > with.get(i).kind[5]) {
        return -3;
      }
    }
    return 0;
  }

  int kind(int width, int depth, int height, int weight, int skin, int strength) {
    argument(width >= 1 && width <= 3 && depth >= 1 && depth <= 3 && height >= 1 && height <= 4);
    argument(weight >= 1 && weight <= 60 && skin >= 0 && skin <= 2);
    argument(strength >= 0 && strength <= 200);
    state(kinds.size() < 5);
    kinds.add(new int[] {width, depth, height, weight, skin, strength});
    return kinds.size() - 1;
  }

  int fall(int kind, int x, int y) {
    index(kind >= 0 && kind < kinds.size());
    argument(x >= 0 && x <= 5 && y >= 0 && y <= 5);
    argument(inside(rectangle(x, y, kinds.get(kind)[0], kinds.get(kind)[1])));
    state(all.size() < 12);
    Thing thing = new Thing();
    thing.number = all.size();
    thing.kind = kinds.get(kind);
    thing.kindNumber = kind;
    thing.where = -1;
    all.add(thing);
    drop(thing, x, y);
    return thing.number;
  }

  int tangle(int one, int other) {
    Thing first = thing(one);
    Thing second = thing(other);
    argument(first != second);
    state(first.where == 0 && second.where == 0);
    first.tangles.add(second);
    second.tangles.add(first);
    return first.tangles.size();
  }

  int shake(int number) {
    int many = thing(number).tangles.size();
    free(thing(number));
    return many;
  }

  int person(boolean isNear, boolean isSlow) {
    int was = near ? 1 : 0;
    near = isNear;
    slow = isSlow;
    return was;
  }

  int box(int order) {
    argument(order >= 1 && order <= 99999);
    Box box = new Box();
    for (int kind = 0, rest = order; kind < 5; kind++, rest /= 10) {
      box.wished[kind] = rest % 10;
      argument(kind < kinds.size() || box.wished[kind] == 0);
    }
    state(boxes.size() < 4);
    boxes.add(box);
    return boxes.size() - 1;
  }

  int pick(int number, int by) {
    Thing thing = thing(number);
    argument(by >= 0 && by <= 2);
    state(thing.where == 0 && held == null);
    clock += way(thing, by);
    tool = by;
    armX = thing.x;
    armY = thing.y;
    int hindrance = hindrance(thing, by);
    if (hindrance != 0) {
      hindered++;
      return hindrance;
    }
    double margin = (double) holds(thing, by) / (double) lift(thing);
    int grip = (int) Math.min(7.0, Math.rint(margin * 4.0));
    draw = (5 * draw + 3) % 8;
    if (draw > grip) {
      thing.slips++;
      slips++;
      free(thing);
      return -2;
    }
    take(thing);
    return 0;
  }

  private void take(Thing thing) {
    thing.where = 1;
    held = thing;
    List<Thing> out = new ArrayList<Thing>();
    for (Thing other : all) {
      if (thing.tangles.contains(other) && lyingOn(other).isEmpty()) {
        out.add(other);
      }
    }
    for (Thing other : out) {
      other.where = -1;
    }
    for (Thing other : out) {
      boolean fits = inside(rectangle(thing.x, thing.y, other.kind[0], other.kind[1]));
      drop(other, fits ? thing.x : other.x, fits ? thing.y : other.y);
    }
    free(thing);
  }

  int put(int number) {
    Box box = boxOf(number);
    state(box.open && held != null);
    clock += slow ? 10.0 * 2.0 : 10.0;
    int refusal = refusal(box, held);
    if (refusal != 0) {
      return refusal;
    }
    held.where = 2 + number;
    box.inside.add(held);
    held = null;
    return box.inside.size();
  }

  int back() {
    state(held != null);
    Thing thing = held;
    held = null;
    drop(thing, thing.x, thing.y);
    return thing.ground;
  }

  int close(int number) {
    Box box = boxOf(number);
    state(box.open);
    box.open = false;
    return lacks(box);
  }

  int ofKind(int kind, int what) {
    index(kind >= 0 && kind < kinds.size());
    argument(what >= 0 && what <= 6);
    int many = 0;
    for (Thing thing : bin()) {
      many += thing.kindNumber == kind ? 1 : 0;
    }
    return what == 6 ? many : kinds.get(kind)[what];
  }

  int ofThing(int number, int what) {
    Thing thing = thing(number);
    argument(what >= 0 && what <= 9);
    int[] answers = {thing.kindNumber, thing.x, thing.y, thing.ground, thing.top(), thing.where,
        set(lyingOn(thing)), seenCells(thing), set(thing.tangles), thing.slips};
    return answers[what];
  }

  int hinders(int number, int by) {
    Thing thing = thing(number);
    argument(by >= 0 && by <= 2);
    return thing.where == 0 ? hindrance(thing, by) : -1;
  }

  double force(int number, int by) {
    Thing thing = thing(number);
    argument(by >= 0 && by <= 2);
    return thing.where == 0 ? (double) holds(thing, by) : 0.0;
  }

  double ticks(int number, int by) {
    Thing thing = thing(number);
    argument(by >= 0 && by <= 2);
    return thing.where == 0 ? way(thing, by) : -1.0;
  }

  double clock() {
    return clock;
  }

  int seen(int x, int y) {
    index(x >= 0 && x <= 5 && y >= 0 && y <= 5);
    Thing thing = seenThing(x, y);
    return thing == null ? -1 : thing.number;
  }

  int ofBox(int number, int what) {
    Box box = boxOf(number);
    argument(what >= 0 && what <= 5);
    int weight = 0;
    for (Thing thing : box.inside) {
      weight += thing.kind[3];
    }
    int last = -1;
    int bears = -1;
    if (!box.inside.isEmpty()) {
      Thing bottom = box.inside.get(0);
      last = box.inside.get(box.inside.size() - 1).number;
      bears = bottom.kind[5] - (weight - bottom.kind[3]);
    }
    int[] answers = {box.inside.size(), weight, lacks(box), box.open ? 1 : 0, last, bears};
    return answers[what];
  }

  int many(int what) {
    argument(what >= 0 && what <= 12);
    int full = 0;
    for (Box box : boxes) {
      full += lacks(box) == 0 ? 1 : 0;
    }
    int top = 0;
    for (Thing thing : bin()) {
      top = Math.max(top, thing.top());
    }
    int has = held == null ? -1 : held.number;
    int[] answers = {kinds.size(), all.size(), bin().size(), boxes.size(), full, has, tool, armX,
        armY, draw, slips, hindered, top};
    return answers[what];
  }

  int ahead(int number) {
    Set<Thing> found = new HashSet<Thing>();
    collect(thing(number), found);
    return set(found);
  }

  private void collect(Thing under, Set<Thing> found) {
    for (Thing thing : lyingOn(under)) {
      if (found.add(thing)) {
        collect(thing, found);
      }
    }
  }

  int next(int kind) {
    index(kind >= 0 && kind < kinds.size());
    int best = -1;
    for (int number = 3 * all.size() - 1; number >= 0; number--) {
      Thing thing = all.get(number / 3);
      boolean may = thing.where == 0 && thing.kindNumber == kind && hindrance(thing, number % 3) == 0;
      if (may && (best < 0 || way(thing, number % 3) <= way(all.get(best / 3), best % 3))) {
        best = number;
      }
    }
    return best;
  }

  int wouldFit(int number, int box) {
    Thing thing = thing(number);
    return boxOf(box).open ? refusal(boxOf(box), thing) : -1;
  }

  long digest() {
    long d = 9609;
    for (int what = 0; what <= 12; what++) {
      d = d * 31 + many(what);
    }
    d = d * 31 + Math.round(clock * 4);
    for (int kind = 0; kind < kinds.size(); kind++) {
      d = (d * 31 + ofKind(kind, 6)) * 31 + next(kind);
    }
    for (int thing = 0; thing < all.size(); thing++) {
      for (int what = 0; what <= 9; what++) {
        d = d * 31 + ofThing(thing, what);
      }
      for (int by = 0; by <= 2; by++) {
        d = d * 31 + hinders(thing, by);
      }
      d = d * 31 + ahead(thing);
    }
    for (int box = 0; box < boxes.size(); box++) {
      for (int what = 0; what <= 5; what++) {
        d = d * 31 + ofBox(box, what);
      }
      for (int thing = 0; thing < all.size(); thing++) {
        d = d * 31 + wouldFit(thing, box);
      }
    }
    return d;
  }
}
