import java.util.ArrayList;
import java.util.Arrays;

/** An arm that takes one thing out of a heap. */
public final class PickCell {
  private static final int NONE = -1;
  private static final int SIDE = 6;
  private static final int MOST_KINDS = 5;
  private static final int MOST_THINGS = 12;
  private static final int MOST_BOXES = 4;
  private static final int TOOLS = 3;
  private static final int CUP = 0;
  private static final int FINGERS = 1;
  private static final int MAGNET = 2;
  private static final int SMOOTH = 0;
  private static final int IRON = 2;
  private static final int IN_BIN = 0;
  private static final int IN_ARM = 1;
  private static final int IN_FIRST_BOX = 2;
  private static final int COME_OUT = -1;
  private static final int SLIPPED = -2;
  private static final int NO_NEED = -2;
  private static final int CRUSHES = -3;

  private final ArrayList<Kind> kinds = new ArrayList<Kind>();
  private final Bin bin = new Bin();
  private final ArrayList<Box> boxes = new ArrayList<Box>();
  private final Arm arm = new Arm();
  private boolean personIsNear = false;
  private int draw = 0;
  private int slips = 0;
  private int hinderedPicks = 0;

  public PickCell() {
  }

  // ---- what is told

  public int kind(int width, int depth, int height, int weight, int skin, int strength)
      throws IllegalArgumentException, IllegalStateException {
    boolean sizeIsRight = isWithin(width, 1, 3) && isWithin(depth, 1, 3) && isWithin(height, 1, 4);
    boolean restIsRight =
        isWithin(weight, 1, 60) && isWithin(skin, 0, 2) && isWithin(strength, 0, 200);
    if (!sizeIsRight || !restIsRight) {
      throw new IllegalArgumentException("no such kind can be");
    }
    if (kinds.size() >= MOST_KINDS) {
      throw new IllegalStateException("there are 5 kinds");
    }
    int number = kinds.size();
    kinds.add(new Kind(number, width, depth, height, weight, skin, strength));
    return number;
  }

  public int fall(int kind, int x, int y)
      throws IndexOutOfBoundsException, IllegalArgumentException, IllegalStateException {
    Kind fallingKind = kindNumbered(kind);
    if (!areInBin(x, y, fallingKind.width, fallingKind.depth)) {
      throw new IllegalArgumentException("a cell would not be in the bin");
    }
    if (bin.things.size() >= MOST_THINGS) {
      throw new IllegalStateException("there were 12 things");
    }
    Thing thing = new Thing(bin.things.size(), fallingKind);
    bin.things.add(thing);
    bin.letFall(thing, x, y);
    return thing.number;
  }

  public int tangle(int one, int other)
      throws IndexOutOfBoundsException, IllegalArgumentException, IllegalStateException {
    Thing first = thingNumbered(one);
    Thing second = thingNumbered(other);
    if (one == other) {
      throw new IllegalArgumentException("a thing is not tangled with itself");
    }
    if (!first.isInBin() || !second.isInBin()) {
      throw new IllegalStateException("one of both is not in the bin");
    }
    first.tangles |= second.bit();
    second.tangles |= first.bit();
    return Integer.bitCount(first.tangles);
  }

  public int shake(int thing) throws IndexOutOfBoundsException {
    Thing shaken = thingNumbered(thing);
    int tangles = Integer.bitCount(shaken.tangles);
    bin.untangle(shaken);
    return tangles;
  }

  public boolean person(boolean isNear, boolean isSlow) {
    boolean wasNear = personIsNear;
    personIsNear = isNear;
    arm.isSlow = isSlow;
    return wasNear;
  }

  public int box(int order) throws IllegalArgumentException, IllegalStateException {
    if (!isWithin(order, 1, 99999) || wishesUnknownKind(order)) {
      throw new IllegalArgumentException("no such order can be");
    }
    if (boxes.size() >= MOST_BOXES) {
      throw new IllegalStateException("there are 4 boxes");
    }
    int number = boxes.size();
    boxes.add(new Box(number, order));
    return number;
  }

  // ---- what is done

  public int pick(int thing, int tool)
      throws IndexOutOfBoundsException, IllegalArgumentException, IllegalStateException {
    Thing goal = thingNumbered(thing);
    refuseOtherTools(tool);
    if (!goal.isInBin() || arm.held != null) {
      throw new IllegalStateException("the thing is not in the bin, or the arm has one");
    }
    int hindrance = hindranceOf(goal, tool);
    arm.goTo(goal, tool);
    if (hindrance != 0) {
      hinderedPicks++;
      return hindrance;
    }
    draw = (5 * draw + 3) % 8;
    if (draw > bin.gripOn(goal, tool)) {
      slip(goal);
      return SLIPPED;
    }
    bin.takeOut(goal);
    arm.held = goal;
    return 0;
  }

  public int put(int box) throws IndexOutOfBoundsException, IllegalStateException {
    Box goal = boxNumbered(box);
    Thing held = arm.held;
    if (!goal.isOpen || held == null) {
      throw new IllegalStateException("the box is not open, or the arm has none");
    }
    arm.spend(10.0);
    int refusal = goal.refusalOf(held.kind);
    if (refusal != 0) {
      return refusal;
    }
    goal.things.add(held);
    held.place = IN_FIRST_BOX + goal.number;
    arm.held = null;
    return goal.things.size();
  }

  public int back() throws IllegalStateException {
    Thing held = arm.held;
    if (held == null) {
      throw new IllegalStateException("the arm has none");
    }
    arm.held = null;
    bin.letFall(held, held.x, held.y);
    return held.ground;
  }

  public int close(int box) throws IndexOutOfBoundsException, IllegalStateException {
    Box closing = boxNumbered(box);
    if (!closing.isOpen) {
      throw new IllegalStateException("the box is not open");
    }
    closing.isOpen = false;
    return closing.lacking();
  }

  // ---- what one asks

  public int ofKind(int kind, int what)
      throws IndexOutOfBoundsException, IllegalArgumentException {
    Kind asked = kindNumbered(kind);
    switch (what) {
      case 0:
        return asked.width;
      case 1:
        return asked.depth;
      case 2:
        return asked.height;
      case 3:
        return asked.weight;
      case 4:
        return asked.skin;
      case 5:
        return asked.strength;
      case 6:
        return bin.manyInBinOf(asked);
      default:
        throw new IllegalArgumentException("what is not 0 to 6");
    }
  }

  public int ofThing(int thing, int what)
      throws IndexOutOfBoundsException, IllegalArgumentException {
    Thing asked = thingNumbered(thing);
    switch (what) {
      case 0:
        return asked.kind.number;
      case 1:
        return asked.x;
      case 2:
        return asked.y;
      case 3:
        return asked.ground;
      case 4:
        return asked.top;
      case 5:
        return asked.place;
      case 6:
        return bin.setLyingOn(asked);
      case 7:
        return bin.cellsSeenOf(asked);
      case 8:
        return asked.tangles;
      case 9:
        return asked.slips;
      default:
        throw new IllegalArgumentException("what is not 0 to 9");
    }
  }

  public int hinders(int thing, int tool)
      throws IndexOutOfBoundsException, IllegalArgumentException {
    Thing asked = thingNumbered(thing);
    refuseOtherTools(tool);
    return hindranceOf(asked, tool);
  }

  public double force(int thing, int tool)
      throws IndexOutOfBoundsException, IllegalArgumentException {
    Thing asked = thingNumbered(thing);
    refuseOtherTools(tool);
    return asked.isInBin() ? (double) bin.forceOn(asked, tool) : 0.0;
  }

  public double ticks(int thing, int tool)
      throws IndexOutOfBoundsException, IllegalArgumentException {
    Thing asked = thingNumbered(thing);
    refuseOtherTools(tool);
    return asked.isInBin() ? arm.ticksTo(asked, tool) : -1.0;
  }

  public double clock() {
    return arm.time;
  }

  public int seen(int x, int y) throws IndexOutOfBoundsException {
    if (!areInBin(x, y, 1, 1)) {
      throw new IndexOutOfBoundsException("x or y is not 0 to 5");
    }
    return bin.seenAt(x, y);
  }

  public int ofBox(int box, int what)
      throws IndexOutOfBoundsException, IllegalArgumentException {
    Box asked = boxNumbered(box);
    switch (what) {
      case 0:
        return asked.things.size();
      case 1:
        return asked.weightFrom(0);
      case 2:
        return asked.lacking();
      case 3:
        return asked.isOpen ? 1 : 0;
      case 4:
        return asked.lastThing();
      case 5:
        return asked.bottomCouldBear();
      default:
        throw new IllegalArgumentException("what is not 0 to 5");
    }
  }

  public int many(int what) throws IllegalArgumentException {
    switch (what) {
      case 0:
        return kinds.size();
      case 1:
        return bin.things.size();
      case 2:
        return bin.manyInBin();
      case 3:
        return boxes.size();
      case 4:
        return fullBoxes();
      case 5:
        return arm.numberHeld();
      case 6:
        return arm.tool;
      case 7:
        return arm.x;
      case 8:
        return arm.y;
      case 9:
        return draw;
      case 10:
        return slips;
      case 11:
        return hinderedPicks;
      case 12:
        return bin.greatestTop(0, 0, SIDE, SIDE);
      default:
        throw new IllegalArgumentException("what is not 0 to 12");
    }
  }

  // ---- what would be (nothing is changed)

  public int ahead(int thing) throws IndexOutOfBoundsException {
    return bin.setAheadOf(thingNumbered(thing));
  }

  public int next(int kind) throws IndexOutOfBoundsException {
    Kind wanted = kindNumbered(kind);
    int best = NONE;
    double fewest = 0.0;
    for (int i = 0; i < bin.things.size(); i++) {
      Thing thing = bin.things.get(i);
      for (int tool = 0; tool < TOOLS && thing.kind == wanted; tool++) {
        double cost = arm.ticksTo(thing, tool);
        boolean isBetter = best == NONE || cost < fewest;
        if (isBetter && hindranceOf(thing, tool) == 0) {
          best = TOOLS * thing.number + tool;
          fewest = cost;
        }
      }
    }
    return best;
  }

  public int wouldFit(int thing, int box) throws IndexOutOfBoundsException {
    Thing asked = thingNumbered(thing);
    Box goal = boxNumbered(box);
    return goal.isOpen ? goal.refusalOf(asked.kind) : NONE;
  }

  public long digest() {
    long d = 9609L;
    for (int what = 0; what <= 12; what++) {
      d = d * 31L + (long) many(what);
    }
    d = d * 31L + (long) (arm.time * 4.0);
    for (int kind = 0; kind < kinds.size(); kind++) {
      d = d * 31L + (long) ofKind(kind, 6);
      d = d * 31L + (long) next(kind);
    }
    for (int thing = 0; thing < bin.things.size(); thing++) {
      d = withThing(d, bin.things.get(thing));
    }
    for (int box = 0; box < boxes.size(); box++) {
      d = withBox(d, box);
    }
    return d;
  }

  private long withThing(long before, Thing thing) {
    long d = before;
    for (int what = 0; what <= 9; what++) {
      d = d * 31L + (long) ofThing(thing.number, what);
    }
    for (int tool = 0; tool < TOOLS; tool++) {
      d = d * 31L + (long) hindranceOf(thing, tool);
    }
    return d * 31L + (long) bin.setAheadOf(thing);
  }

  private long withBox(long before, int box) {
    long d = before;
    for (int what = 0; what <= 5; what++) {
      d = d * 31L + (long) ofBox(box, what);
    }
    for (int thing = 0; thing < bin.things.size(); thing++) {
      d = d * 31L + (long) wouldFit(thing, box);
    }
    return d;
  }

  private Kind kindNumbered(int number) {
    if (number < 0 || number >= kinds.size()) {
      throw new IndexOutOfBoundsException("there is no such kind");
    }
    return kinds.get(number);
  }

  private Thing thingNumbered(int number) {
    if (number < 0 || number >= bin.things.size()) {
      throw new IndexOutOfBoundsException("there is no such thing");
    }
    return bin.things.get(number);
  }

  private Box boxNumbered(int number) {
    if (number < 0 || number >= boxes.size()) {
      throw new IndexOutOfBoundsException("there is no such box");
    }
    return boxes.get(number);
  }

  private static void refuseOtherTools(int tool) {
    if (!isWithin(tool, 0, TOOLS - 1)) {
      throw new IllegalArgumentException("tool is not 0 to 2");
    }
  }

  private boolean wishesUnknownKind(int order) {
    int rest = order;
    for (int kind = 0; kind < kinds.size(); kind++) {
      rest = rest / 10;
    }
    return rest > 0;
  }

  private int fullBoxes() {
    int full = 0;
    for (int i = 0; i < boxes.size(); i++) {
      if (boxes.get(i).lacking() == 0) {
        full++;
      }
    }
    return full;
  }

  private int hindranceOf(Thing thing, int tool) {
    if (!thing.isInBin()) {
      return NONE;
    }
    if (bin.setLyingOn(thing) != 0) {
      return 1;
    }
    if (bin.shareSeenOf(thing) < 0.5f) {
      return 2;
    }
    float force = bin.forceOn(thing, tool);
    if (force == 0f) {
      return 3;
    }
    if (force < bin.liftOf(thing)) {
      return 4;
    }
    return personIsNear ? 5 : 0;
  }

  private void slip(Thing thing) {
    thing.slips++;
    slips++;
    bin.untangle(thing);
  }

  private static boolean isWithin(int value, int least, int most) {
    return value >= least && value <= most;
  }

  // The sizes are taken from SIDE, as a corner near the greatest int would wrap around.
  private static boolean areInBin(int x, int y, int width, int depth) {
    return x >= 0 && y >= 0 && x <= SIDE - width && y <= SIDE - depth;
  }

  // Math.rint is not in the language that this file keeps to; value is 0.0 or more.
  private static int nearestWhole(double value) {
    int below = (int) value;
    double rest = value - (double) below;
    boolean isOdd = below % 2 == 1;
    boolean isUp = rest > 0.5 || rest == 0.5 && isOdd;
    return isUp ? below + 1 : below;
  }

  private static final class Kind {
    final int number;
    final int width;
    final int depth;
    final int height;
    final int weight;
    final int skin;
    final int strength;

    Kind(int number, int width, int depth, int height, int weight, int skin, int strength) {
      this.number = number;
      this.width = width;
      this.depth = depth;
      this.height = height;
      this.weight = weight;
      this.skin = skin;
      this.strength = strength;
    }
  }

  private static final class Thing {
    final int number;
    final Kind kind;
    int x = 0;
    int y = 0;
    int ground = 0;
    int top = 0;
    int place = COME_OUT;
    int fallen = 0;
    int tangles = 0;
    int slips = 0;

    Thing(int number, Kind kind) {
      this.number = number;
      this.kind = kind;
    }

    int bit() {
      return 1 << number;
    }

    boolean isIn(int set) {
      return (set & bit()) != 0;
    }

    boolean isInBin() {
      return place == IN_BIN;
    }

    boolean sharesCellWith(Thing other) {
      return x < other.x + other.kind.width
          && other.x < x + kind.width
          && y < other.y + other.kind.depth
          && other.y < y + kind.depth;
    }

    boolean liesOn(Thing other) {
      return isInBin()
          && other.isInBin()
          && sharesCellWith(other)
          && ground >= other.top
          && fallen > other.fallen;
    }
  }

  /** All things ever, and what the cells of the bin show of those that are in it. */
  private static final class Bin {
    final ArrayList<Thing> things = new ArrayList<Thing>();
    private final int[] tops = new int[SIDE * SIDE];
    private final int[] shown = new int[SIDE * SIDE];
    private int falls = 0;

    Bin() {
      Arrays.fill(shown, NONE);
    }

    void letFall(Thing thing, int x, int y) {
      falls++;
      thing.x = x;
      thing.y = y;
      thing.ground = greatestTop(x, y, thing.kind.width, thing.kind.depth);
      thing.top = thing.ground + thing.kind.height;
      thing.fallen = falls;
      thing.place = IN_BIN;
      lookAnew();
    }

    void takeOut(Thing taken) {
      taken.place = IN_ARM;
      int comingOut = setOfFreeIn(taken.tangles);
      untangle(taken);
      for (int i = 0; i < things.size(); i++) {
        Thing thing = things.get(i);
        if (thing.isIn(comingOut)) {
          thing.place = COME_OUT;
        }
      }
      lookAnew();
      for (int i = 0; i < things.size(); i++) {
        Thing thing = things.get(i);
        if (thing.isIn(comingOut)) {
          letFallAfter(taken, thing);
        }
      }
    }

    private void letFallAfter(Thing taken, Thing thing) {
      if (areInBin(taken.x, taken.y, thing.kind.width, thing.kind.depth)) {
        letFall(thing, taken.x, taken.y);
      } else {
        letFall(thing, thing.x, thing.y);
      }
    }

    private int setOfFreeIn(int set) {
      int free = 0;
      for (int i = 0; i < things.size(); i++) {
        Thing thing = things.get(i);
        if (thing.isIn(set) && setLyingOn(thing) == 0) {
          free |= thing.bit();
        }
      }
      return free;
    }

    void untangle(Thing thing) {
      for (int i = 0; i < things.size(); i++) {
        things.get(i).tangles &= ~thing.bit();
      }
      thing.tangles = 0;
    }

    // The cells are kept from one change of the heap to the next, as every question needs them.
    private void lookAnew() {
      Arrays.fill(tops, 0);
      Arrays.fill(shown, NONE);
      for (int i = 0; i < things.size(); i++) {
        Thing thing = things.get(i);
        if (thing.isInBin()) {
          enterIntoCells(thing);
        }
      }
      hideCellsInShadow();
    }

    private void enterIntoCells(Thing thing) {
      for (int y = thing.y; y < thing.y + thing.kind.depth; y++) {
        for (int x = thing.x; x < thing.x + thing.kind.width; x++) {
          int cell = y * SIDE + x;
          if (areInBin(x, y, 1, 1) && tops[cell] < thing.top) {
            tops[cell] = thing.top;
            shown[cell] = thing.number;
          }
        }
      }
    }

    private void hideCellsInShadow() {
      for (int y = 0; y < SIDE; y++) {
        for (int x = 0; x < SIDE; x++) {
          int light = topAt(x, y) + 3;
          boolean isBesideInX = topAt(x - 1, y) > light || topAt(x + 1, y) > light;
          if (isBesideInX || topAt(x, y - 1) > light || topAt(x, y + 1) > light) {
            shown[y * SIDE + x] = NONE;
          }
        }
      }
    }

    // Outside of the bin there is nothing that throws a shadow.
    private int topAt(int x, int y) {
      return x >= 0 && y >= 0 && x < SIDE && y < SIDE ? tops[y * SIDE + x] : 0;
    }

    int greatestTop(int x, int y, int width, int depth) {
      int greatest = 0;
      for (int cellY = y; cellY < y + depth; cellY++) {
        for (int cellX = x; cellX < x + width; cellX++) {
          int cell = cellY * SIDE + cellX;
          if (cell >= 0 && cell < tops.length && tops[cell] > greatest) {
            greatest = tops[cell];
          }
        }
      }
      return greatest;
    }

    int seenAt(int x, int y) {
      return areInBin(x, y, 1, 1) ? shown[y * SIDE + x] : NONE;
    }

    int cellsSeenOf(Thing thing) {
      int cells = 0;
      for (int y = thing.y; y < thing.y + thing.kind.depth; y++) {
        for (int x = thing.x; x < thing.x + thing.kind.width; x++) {
          if (seenAt(x, y) == thing.number) {
            cells++;
          }
        }
      }
      return cells;
    }

    // The divisor is never 0: kind() takes no width and no depth below 1.
    float shareSeenOf(Thing thing) {
      return (float) cellsSeenOf(thing) / (float) (thing.kind.width * thing.kind.depth);
    }

    int setLyingOn(Thing thing) {
      int set = 0;
      for (int i = 0; i < things.size(); i++) {
        Thing other = things.get(i);
        if (other.liesOn(thing)) {
          set |= other.bit();
        }
      }
      return set;
    }

    int setAheadOf(Thing thing) {
      int set = setLyingOn(thing);
      int before = 0;
      for (int round = 0; round < things.size() && set != before; round++) {
        before = set;
        for (int i = 0; i < things.size(); i++) {
          Thing other = things.get(i);
          if (other.isIn(before)) {
            set |= setLyingOn(other);
          }
        }
      }
      return set;
    }

    float forceOn(Thing thing, int tool) {
      if (tool == CUP) {
        return thing.kind.skin == SMOOTH ? 6.5f * (float) cellsSeenOf(thing) : 0f;
      }
      if (tool == FINGERS && hasRoom(thing)) {
        float force = 18f + 4f * (float) thing.kind.height;
        return thing.kind.skin == SMOOTH ? force * 0.5f : force;
      }
      return tool == MAGNET && thing.kind.skin == IRON ? 9f * (float) thing.kind.height : 0f;
    }

    private boolean hasRoom(Thing thing) {
      int x = thing.x;
      int y = thing.y;
      int width = thing.kind.width;
      int depth = thing.kind.depth;
      int ground = thing.ground;
      boolean isInX = isRoom(x - 1, y, 1, depth, ground) && isRoom(x + width, y, 1, depth, ground);
      return isInX
          || isRoom(x, y - 1, width, 1, ground) && isRoom(x, y + depth, width, 1, ground);
    }

    private boolean isRoom(int x, int y, int width, int depth, int ground) {
      return areInBin(x, y, width, depth) && greatestTop(x, y, width, depth) <= ground;
    }

    float liftOf(Thing thing) {
      int weight = thing.kind.weight;
      for (int i = 0; i < things.size(); i++) {
        Thing other = things.get(i);
        if (other.isIn(thing.tangles)) {
          weight += other.kind.weight;
        }
      }
      return (float) weight;
    }

    // The divisor is never 0: kind() takes no weight below 1.
    int gripOn(Thing thing, int tool) {
      double margin = (double) forceOn(thing, tool) / (double) liftOf(thing);
      return Math.min(nearestWhole(margin * 4.0), 7);
    }

    int manyInBin() {
      int many = 0;
      for (int i = 0; i < things.size(); i++) {
        if (things.get(i).isInBin()) {
          many++;
        }
      }
      return many;
    }

    int manyInBinOf(Kind kind) {
      int many = 0;
      for (int i = 0; i < things.size(); i++) {
        Thing thing = things.get(i);
        if (thing.isInBin() && thing.kind == kind) {
          many++;
        }
      }
      return many;
    }
  }

  private static final class Arm {
    int x = 0;
    int y = 0;
    int tool = 0;
    Thing held = null;
    boolean isSlow = false;
    double time = 0.0;

    int numberHeld() {
      return held == null ? NONE : held.number;
    }

    double ticksTo(Thing thing, int newTool) {
      int way = Math.max(Math.abs(thing.x - x), Math.abs(thing.y - y));
      double height = 12.0 - (double) thing.top;
      double cost = (double) way * 1.5 + (height > 0.0 ? height : 0.0) * 0.25;
      if (newTool != tool) {
        cost = cost + 8.0;
      }
      return cost * pace();
    }

    void goTo(Thing thing, int newTool) {
      time = time + ticksTo(thing, newTool);
      tool = newTool;
      x = thing.x;
      y = thing.y;
    }

    void spend(double cost) {
      time = time + cost * pace();
    }

    private double pace() {
      return isSlow ? 2.0 : 1.0;
    }
  }

  private static final class Box {
    final int number;
    final ArrayList<Thing> things = new ArrayList<Thing>();
    private final int order;
    boolean isOpen = true;

    Box(int number, int order) {
      this.number = number;
      this.order = order;
    }

    // What put() answers for a thing of that kind, but 0 if it takes it.
    int refusalOf(Kind kind) {
      if (manyOf(kind) >= wishedOf(kind)) {
        return NO_NEED;
      }
      return wouldCrush(kind.weight) ? CRUSHES : 0;
    }

    private int manyOf(Kind kind) {
      int many = 0;
      for (int i = 0; i < things.size(); i++) {
        if (things.get(i).kind == kind) {
          many++;
        }
      }
      return many;
    }

    private int wishedOf(Kind kind) {
      int rest = order;
      for (int lower = 0; lower < kind.number; lower++) {
        rest = rest / 10;
      }
      return rest % 10;
    }

    private boolean wouldCrush(int weight) {
      for (int i = 0; i < things.size(); i++) {
        if (weightFrom(i + 1) + weight > things.get(i).kind.strength) {
          return true;
        }
      }
      return false;
    }

    int weightFrom(int first) {
      int weight = 0;
      for (int i = first; i < things.size(); i++) {
        weight += things.get(i).kind.weight;
      }
      return weight;
    }

    // put() takes nothing that is not wished, so all that is in it counts.
    int lacking() {
      int wished = 0;
      int rest = order;
      for (int kind = 0; kind < MOST_KINDS; kind++) {
        wished += rest % 10;
        rest = rest / 10;
      }
      return wished - things.size();
    }

    int lastThing() {
      return things.isEmpty() ? NONE : things.get(things.size() - 1).number;
    }

    int bottomCouldBear() {
      return things.isEmpty() ? NONE : things.get(0).kind.strength - weightFrom(1);
    }
  }
}
