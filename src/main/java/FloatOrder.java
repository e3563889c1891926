/** The order of the floats of a parade: see README.md for its use. */
public final class FloatOrder {
  public static final int NONE = -1;

  private static final int MOST_FLOATS = 12;
  private static final int MOST_BRIDGES = 4;
  private static final int MOST_SAVED = 6;
  private static final int MOST_CHARACTERS = 60;
  private static final int MOST_FLOATS_FOR_ALL_ORDERS = 6;
  // Each exchange makes the trouble or the end less, so that far fewer are ever done.
  private static final int MOST_EXCHANGES = 1000000;

  private static final int HORSES = 1;
  private static final int BAND = 2;
  private static final int GIANT = 3;
  private static final int KINDS = 4;
  private static final int ALL_KINDS_MASK = 15;

  private static final int LEAST_HEIGHT = 10;
  private static final int GREATEST_HEIGHT = 99;
  private static final int LESS_BY_FOLDING = 20;
  private static final int GREATEST_DISTANCE = 50;
  private static final int WAY = 60;

  private static final int REASONS = 3;

  private static final int SETTINGS = 4;
  private static final int BANDS_APART = 0;
  private static final int GAP = 1;
  private static final int PACE = 2;
  private static final int LOWERING = 3;
  private static final int[] LEAST_SETTINGS = {1, 1, 1, 0};
  private static final int[] GREATEST_SETTINGS = {6, 9, 9, 20};

  private static final int FLOAT_PROPERTIES = 7;
  private static final int BRIDGE_PROPERTIES = 3;
  private static final int COUNTS = 9;

  private static final long DIGEST_START = 2971L;
  private static final int MANTISSA_BITS = 52;
  private static final int EXPONENT_BIAS = 1023;

  private final Parade parade = new Parade();
  // What would be is tried out here, so that a look never touches the parade itself.
  private final Parade trial = new Parade();
  private final History history = new History();
  private final Best best = new Best();
  private final PartReader reader = new PartReader();
  private final int[] buffer = new int[MOST_CHARACTERS];
  private int characters = 0;

  public FloatOrder() {
  }

  // ---- floats

  public int put(int place, int kind, int height, int shies)
      throws IndexOutOfBoundsException, IllegalArgumentException, IllegalStateException {
    if (place < 0 || place > parade.floats) {
      throw new IndexOutOfBoundsException("no such place");
    }
    if (!isFloat(kind, height, shies)) {
      throw new IllegalArgumentException("kind, height or shies is out of range");
    }
    if (parade.floats >= MOST_FLOATS) {
      throw new IllegalStateException("there are 12 floats");
    }
    history.save(parade);
    parade.addLast(kind, height, shies);
    parade.shift(parade.floats - 1, place);
    return parade.floats;
  }

  public int remove(int place) throws IndexOutOfBoundsException {
    needFloat(place);
    history.save(parade);
    parade.takeAway(place);
    return parade.floats;
  }

  public int move(int place, int to) throws IndexOutOfBoundsException {
    needFloat(place);
    needFloat(to);
    history.save(parade);
    parade.shift(place, to);
    return parade.allTrouble();
  }

  public int exchange(int place, int other) throws IndexOutOfBoundsException {
    needFloat(place);
    needFloat(other);
    history.save(parade);
    parade.swap(place, other);
    return parade.allTrouble();
  }

  public int fold(int place, boolean isFolded) throws IndexOutOfBoundsException {
    needFloat(place);
    history.save(parade);
    parade.folded[place] = isFolded;
    return parade.countedHeight(place);
  }

  public int arrange() {
    history.save(parade);
    int done = 0;
    while (done < MOST_EXCHANGES && doBestExchange()) {
      done++;
    }
    return done;
  }

  // ---- bridges

  public int bridge(int distance, int clearance) throws IllegalArgumentException, IllegalStateException {
    if (distance < 1 || distance > GREATEST_DISTANCE || !isHeight(clearance)) {
      throw new IllegalArgumentException("distance or clearance is out of range");
    }
    if (parade.bridges >= MOST_BRIDGES || parade.hasBridgeAt(distance)) {
      throw new IllegalStateException("there are 4 bridges, or one at this distance");
    }
    history.save(parade);
    return parade.build(distance, clearance);
  }

  public int unbridge(int bridge) throws IndexOutOfBoundsException {
    needBridge(bridge);
    history.save(parade);
    int distance = parade.distances[bridge];
    parade.pullDown(bridge);
    return distance;
  }

  public int set(int setting, int value) throws IndexOutOfBoundsException, IllegalArgumentException {
    needSetting(setting);
    if (value < LEAST_SETTINGS[setting] || value > GREATEST_SETTINGS[setting]) {
      throw new IllegalArgumentException("value is out of range");
    }
    history.save(parade);
    int previous = parade.settings[setting];
    parade.settings[setting] = value;
    return previous;
  }

  // ---- texts

  public int append(int code) throws IllegalArgumentException, IllegalStateException {
    if (code < 33 || code > 126) {
      throw new IllegalArgumentException("code is not 33 to 126");
    }
    if (characters >= MOST_CHARACTERS) {
      throw new IllegalStateException("the buffer has 60 characters");
    }
    buffer[characters] = code;
    characters++;
    return characters;
  }

  public int clearBuffer() {
    int length = characters;
    characters = 0;
    return length;
  }

  public int firstError() {
    return readBuffer();
  }

  public int putAll() throws IllegalArgumentException, IllegalStateException {
    if (readBuffer() < characters || !reader.isAfterPart()) {
      throw new IllegalArgumentException("the buffer is not complete floats as a text");
    }
    if (parade.floats + partsInBuffer() > MOST_FLOATS) {
      throw new IllegalStateException("there would be more than 12 floats");
    }
    history.save(parade);
    addParts();
    characters = 0;
    return parade.floats;
  }

  public int undo() throws IllegalStateException {
    if (history.size <= 0) {
      throw new IllegalStateException("there is no saved state");
    }
    history.restoreLatest(parade);
    return history.size;
  }

  // ---- looks; nothing is changed

  public int floatAt(int place, int what) throws IndexOutOfBoundsException, IllegalArgumentException {
    needFloat(place);
    if (what < 0 || what >= FLOAT_PROPERTIES) {
      throw new IllegalArgumentException("what is not 0 to 6");
    }
    return parade.floatProperty(place, what);
  }

  public int trouble(int place, int reason) throws IndexOutOfBoundsException, IllegalArgumentException {
    needFloat(place);
    if (reason < 0 || reason >= REASONS) {
      throw new IllegalArgumentException("reason is out of range");
    }
    return parade.troubleBy(place, reason);
  }

  public int comes(int place, int bridge) throws IndexOutOfBoundsException {
    needFloat(place);
    if (bridge != NONE) {
      needBridge(bridge);
    }
    parade.travel(place);
    return parade.came[bridge == NONE ? parade.bridges : bridge];
  }

  public int bridgeOf(int bridge, int what) throws IndexOutOfBoundsException, IllegalArgumentException {
    needBridge(bridge);
    if (what < 0 || what >= BRIDGE_PROPERTIES) {
      throw new IllegalArgumentException("what is not 0 to 2");
    }
    return parade.bridgeProperty(bridge, what);
  }

  public int count(int what) throws IllegalArgumentException {
    if (what < 0 || what >= COUNTS) {
      throw new IllegalArgumentException("what is not 0 to 8");
    }
    return number(what);
  }

  public int setting(int setting) throws IndexOutOfBoundsException {
    needSetting(setting);
    return parade.settings[setting];
  }

  // ---- what would be; nothing is changed

  public int ifMoved(int place, int to, int what) throws IndexOutOfBoundsException, IllegalArgumentException {
    needFloat(place);
    needFloat(to);
    if (what < 0 || what > 1) {
      throw new IllegalArgumentException("what is not 0 or 1");
    }
    trial.copyFrom(parade);
    trial.shift(place, to);
    return what == 0 ? trial.allTrouble() : trial.end();
  }

  public int bestPlace(int place) throws IndexOutOfBoundsException {
    needFloat(place);
    return placeOfLeast(place);
  }

  public int bestFold() {
    trial.copyFrom(parade);
    int bestPlace = NONE;
    int leastEnd = 0;
    for (int place = 0; place < trial.floats; place++) {
      if (!trial.folded[place]) {
        trial.folded[place] = true;
        int end = trial.end();
        trial.folded[place] = false;
        if (bestPlace == NONE || end < leastEnd) {
          bestPlace = place;
          leastEnd = end;
        }
      }
    }
    return bestPlace;
  }

  public int leastTrouble() {
    if (parade.floats > MOST_FLOATS_FOR_ALL_ORDERS) {
      return NONE;
    }
    trial.copyFrom(parade);
    return leastFrom(trial, 0, 0, trial.allTrouble());
  }

  public double smoothness() {
    if (parade.floats <= 0) {
      return 1.0;
    }
    return (double) (parade.floats - parade.troubledFloats()) / parade.floats;
  }

  public long digest() {
    long hash = DIGEST_START;
    for (int what = 0; what < COUNTS; what++) {
      hash = mixed(hash, number(what));
    }
    for (int setting = 0; setting < SETTINGS; setting++) {
      hash = mixed(hash, parade.settings[setting]);
    }
    for (int bridge = 0; bridge < parade.bridges; bridge++) {
      for (int what = 0; what < BRIDGE_PROPERTIES; what++) {
        hash = mixed(hash, parade.bridgeProperty(bridge, what));
      }
    }
    for (int place = 0; place < parade.floats; place++) {
      hash = withFloat(hash, place);
    }
    hash = mixed(hash, bestFold());
    hash = mixed(hash, leastTrouble());
    hash = mixed(hash, bitsOfShare(smoothness()));
    hash = mixed(hash, characters);
    for (int i = 0; i < characters; i++) {
      hash = mixed(hash, buffer[i]);
    }
    return hash;
  }

  // ---- what the calls are made of

  private void needFloat(int place) {
    if (place < 0 || place >= parade.floats) {
      throw new IndexOutOfBoundsException("no such float");
    }
  }

  private void needBridge(int bridge) {
    if (bridge < 0 || bridge >= parade.bridges) {
      throw new IndexOutOfBoundsException("no such bridge");
    }
  }

  private static void needSetting(int setting) {
    if (setting < 0 || setting >= SETTINGS) {
      throw new IndexOutOfBoundsException("no such setting");
    }
  }

  private static boolean isHeight(int height) {
    return height >= LEAST_HEIGHT && height <= GREATEST_HEIGHT;
  }

  private static boolean isFloat(int kind, int height, int shies) {
    if (kind < 0 || kind >= KINDS || !isHeight(height)) {
      return false;
    }
    return shies >= 0 && shies <= (kind == HORSES ? ALL_KINDS_MASK : 0);
  }

  private boolean doBestExchange() {
    int bestFirst = NONE;
    int bestOther = NONE;
    best.startAt(parade);
    for (int first = 0; first < parade.floats; first++) {
      for (int other = first + 1; other < parade.floats; other++) {
        parade.swap(first, other);
        if (best.isBeatenBy(parade)) {
          bestFirst = first;
          bestOther = other;
        }
        parade.swap(first, other);
      }
    }
    if (bestFirst == NONE) {
      return false;
    }
    parade.swap(bestFirst, bestOther);
    return true;
  }

  private int placeOfLeast(int place) {
    trial.copyFrom(parade);
    trial.shift(place, 0);
    best.startAt(trial);
    int bestTo = 0;
    for (int to = 1; to < trial.floats; to++) {
      // One place farther back than in the order before is one exchange of neighbours.
      trial.swap(to - 1, to);
      if (best.isBeatenBy(trial)) {
        bestTo = to;
      }
    }
    return bestTo;
  }

  /**
   * The least trouble of all orders that begin with the floats ahead of a place, whose trouble is soFar,
   * but not more than least. What stands behind a float never troubles it, so a beginning can be given up early.
   */
  private static int leastFrom(Parade orders, int place, int soFar, int least) {
    if (soFar >= least) {
      return least;
    }
    if (place >= orders.floats || place >= MOST_FLOATS_FOR_ALL_ORDERS) {
      return soFar;
    }
    int result = least;
    for (int other = place; other < orders.floats; other++) {
      orders.swap(place, other);
      result = leastFrom(orders, place + 1, soFar + orders.troubleAt(place), result);
      orders.swap(place, other);
    }
    return result;
  }

  private int number(int what) {
    switch (what) {
      case 0:
        return parade.floats;
      case 1:
        return parade.bridges;
      case 2:
        return parade.allTrouble();
      case 3:
        return parade.end();
      case 4:
        return parade.loweredFloats();
      case 5:
        return parade.troubledFloats();
      case 6:
        return parade.waiting();
      case 7:
        return parade.greatestHeight();
      default:
        return history.size;
    }
  }

  /** The index of the first syntax error, or the length; the reader then stands behind what it has read. */
  private int readBuffer() {
    reader.start();
    for (int i = 0; i < characters; i++) {
      if (!reader.accepts(buffer[i])) {
        return i;
      }
    }
    return characters;
  }

  private int partsInBuffer() {
    int parts = 1;
    for (int i = 0; i < characters; i++) {
      if (buffer[i] == ';') {
        parts++;
      }
    }
    return parts;
  }

  private void addParts() {
    reader.start();
    for (int i = 0; i < characters; i++) {
      if (buffer[i] == ';') {
        parade.addLast(reader.kind, reader.height, reader.mask);
      }
      reader.accepts(buffer[i]);
    }
    parade.addLast(reader.kind, reader.height, reader.mask);
  }

  private long withFloat(long start, int place) {
    long hash = start;
    for (int what = 0; what < FLOAT_PROPERTIES; what++) {
      hash = mixed(hash, parade.floatProperty(place, what));
    }
    for (int reason = 0; reason < REASONS; reason++) {
      hash = mixed(hash, parade.troubleBy(place, reason));
    }
    parade.travel(place);
    for (int stop = 0; stop <= parade.bridges; stop++) {
      hash = mixed(hash, parade.came[stop]);
    }
    return mixed(hash, placeOfLeast(place));
  }

  private static long mixed(long hash, long value) {
    return 31L * hash + value;
  }

  /**
   * The bits of a double from 0.0 to 1.0, built by hand, as the library's own way is not among what may be used.
   * Doubling is exact, and so is the mantissa as a whole number.
   */
  private static long bitsOfShare(double share) {
    if (share <= 0.0) {
      return 0L;
    }
    double scaled = share;
    long exponent = EXPONENT_BIAS;
    while (scaled < 1.0 && exponent > 1L) {
      scaled = scaled * 2.0;
      exponent--;
    }
    long mantissa = (long) ((scaled - 1.0) * (double) (1L << MANTISSA_BITS));
    return (exponent << MANTISSA_BITS) + mantissa;
  }

  /** All that undo brings back, with what follows from it. */
  private static final class Parade {
    int floats = 0;
    final int[] kinds = new int[MOST_FLOATS];
    final int[] heights = new int[MOST_FLOATS];
    final int[] masks = new int[MOST_FLOATS];
    final boolean[] folded = new boolean[MOST_FLOATS];
    int bridges = 0;
    final int[] distances = new int[MOST_BRIDGES];
    final int[] clearances = new int[MOST_BRIDGES];
    final int[] settings = {3, 2, 2, 4};
    // The minutes of one float at the bridges and, behind them, at the end: filled by travel, no part of the state.
    final int[] came = new int[MOST_BRIDGES + 1];
    final int[] left = new int[MOST_BRIDGES + 1];

    void copyFrom(Parade other) {
      floats = other.floats;
      for (int place = 0; place < floats; place++) {
        kinds[place] = other.kinds[place];
        heights[place] = other.heights[place];
        masks[place] = other.masks[place];
        folded[place] = other.folded[place];
      }
      bridges = other.bridges;
      for (int bridge = 0; bridge < bridges; bridge++) {
        distances[bridge] = other.distances[bridge];
        clearances[bridge] = other.clearances[bridge];
      }
      for (int setting = 0; setting < SETTINGS; setting++) {
        settings[setting] = other.settings[setting];
      }
    }

    void addLast(int kind, int height, int mask) {
      if (floats < MOST_FLOATS) {
        kinds[floats] = kind;
        heights[floats] = height;
        masks[floats] = mask;
        folded[floats] = false;
        floats++;
      }
    }

    void takeAway(int place) {
      shift(place, floats - 1);
      floats--;
    }

    void shift(int from, int to) {
      for (int place = from; place < to; place++) {
        swap(place, place + 1);
      }
      for (int place = from; place > to; place--) {
        swap(place, place - 1);
      }
    }

    void swap(int place, int other) {
      int kind = kinds[place];
      kinds[place] = kinds[other];
      kinds[other] = kind;
      int height = heights[place];
      heights[place] = heights[other];
      heights[other] = height;
      int mask = masks[place];
      masks[place] = masks[other];
      masks[other] = mask;
      boolean isFolded = folded[place];
      folded[place] = folded[other];
      folded[other] = isFolded;
    }

    int floatProperty(int place, int what) {
      switch (what) {
        case 0:
          return kinds[place];
        case 1:
          return heights[place];
        case 2:
          return masks[place];
        case 3:
          return folded[place] ? 1 : 0;
        case 4:
          return countedHeight(place);
        case 5:
          return bridgesThatLower(place);
        default:
          return troubleAt(place);
      }
    }

    int countedHeight(int place) {
      int height = folded[place] ? heights[place] - LESS_BY_FOLDING : heights[place];
      return height < LEAST_HEIGHT ? LEAST_HEIGHT : height;
    }

    int greatestHeight() {
      int greatest = 0;
      for (int place = 0; place < floats; place++) {
        greatest = Math.max(greatest, countedHeight(place));
      }
      return greatest;
    }

    int allTrouble() {
      int sum = 0;
      for (int place = 0; place < floats; place++) {
        sum += troubleAt(place);
      }
      return sum;
    }

    int troubledFloats() {
      int number = 0;
      for (int place = 0; place < floats; place++) {
        if (troubleAt(place) > 0) {
          number++;
        }
      }
      return number;
    }

    int troubleAt(int place) {
      return shying(place) + hearing(place) + meeting(place);
    }

    int troubleBy(int place, int reason) {
      switch (reason) {
        case 0:
          return shying(place);
        case 1:
          return hearing(place);
        default:
          return meeting(place);
      }
    }

    private int shying(int place) {
      int sum = 0;
      if (place >= 1 && (masks[place] >> kinds[place - 1] & 1) == 1) {
        sum += 3;
      }
      if (place >= 2 && (masks[place] >> kinds[place - 2] & 1) == 1) {
        sum += 1;
      }
      return sum;
    }

    private int hearing(int place) {
      int heard = 0;
      if (kinds[place] == BAND) {
        for (int apart = 1; apart < settings[BANDS_APART] && apart <= place; apart++) {
          if (kinds[place - apart] == BAND) {
            heard++;
          }
        }
      }
      return heard;
    }

    private int meeting(int place) {
      return place >= 1 && kinds[place] == GIANT && kinds[place - 1] == GIANT ? 2 : 0;
    }

    boolean hasBridgeAt(int distance) {
      for (int bridge = 0; bridge < bridges; bridge++) {
        if (distances[bridge] == distance) {
          return true;
        }
      }
      return false;
    }

    int build(int distance, int clearance) {
      if (bridges >= MOST_BRIDGES) {
        return NONE;
      }
      int number = bridges;
      while (number > 0 && distances[number - 1] > distance) {
        distances[number] = distances[number - 1];
        clearances[number] = clearances[number - 1];
        number--;
      }
      distances[number] = distance;
      clearances[number] = clearance;
      bridges++;
      return number;
    }

    void pullDown(int bridge) {
      for (int next = bridge + 1; next < bridges; next++) {
        distances[next - 1] = distances[next];
        clearances[next - 1] = clearances[next];
      }
      bridges--;
    }

    int bridgeProperty(int bridge, int what) {
      switch (what) {
        case 0:
          return distances[bridge];
        case 1:
          return clearances[bridge];
        default:
          return floatsLoweredAt(bridge);
      }
    }

    private boolean isLowered(int place, int bridge) {
      return countedHeight(place) > clearances[bridge];
    }

    private int bridgesThatLower(int place) {
      int number = 0;
      for (int bridge = 0; bridge < bridges; bridge++) {
        if (isLowered(place, bridge)) {
          number++;
        }
      }
      return number;
    }

    private int floatsLoweredAt(int bridge) {
      int number = 0;
      for (int place = 0; place < floats; place++) {
        if (isLowered(place, bridge)) {
          number++;
        }
      }
      return number;
    }

    int loweredFloats() {
      int number = 0;
      for (int place = 0; place < floats; place++) {
        if (bridgesThatLower(place) > 0) {
          number++;
        }
      }
      return number;
    }

    /** Lets the floats go their way, up to the one at a place, whose minutes then stand in came. */
    void travel(int last) {
      for (int place = 0; place <= last; place++) {
        int height = countedHeight(place);
        int minute = place * settings[GAP];
        int gone = 0;
        for (int stop = 0; stop <= bridges; stop++) {
          int distance = stop < bridges ? distances[stop] : WAY;
          minute += (distance - gone) * settings[PACE];
          if (place > 0) {
            minute = Math.max(minute, left[stop] + settings[GAP]);
          }
          came[stop] = minute;
          if (stop < bridges && height > clearances[stop]) {
            minute += settings[LOWERING];
          }
          left[stop] = minute;
          gone = distance;
        }
      }
    }

    int end() {
      if (floats <= 0) {
        return 0;
      }
      travel(floats - 1);
      return came[bridges];
    }

    int waiting() {
      if (floats <= 0) {
        return 0;
      }
      // Without lowering the floats keep the gaps with which they set off.
      return end() - (floats - 1) * settings[GAP] - WAY * settings[PACE];
    }
  }

  /** The least trouble met so far and, of the orders with this trouble, the least end. */
  private static final class Best {
    int leastTrouble = 0;
    int leastEnd = 0;

    void startAt(Parade order) {
      leastTrouble = order.allTrouble();
      leastEnd = order.end();
    }

    boolean isBeatenBy(Parade order) {
      int trouble = order.allTrouble();
      if (trouble > leastTrouble) {
        return false;
      }
      int end = order.end();
      if (trouble == leastTrouble && end >= leastEnd) {
        return false;
      }
      leastTrouble = trouble;
      leastEnd = end;
      return true;
    }
  }

  /** The saved states, the oldest one first. */
  private static final class History {
    final Parade[] saved = new Parade[MOST_SAVED];
    int size = 0;

    History() {
      for (int i = 0; i < MOST_SAVED; i++) {
        saved[i] = new Parade();
      }
    }

    void save(Parade state) {
      if (size >= MOST_SAVED) {
        dropOldest();
      }
      saved[size].copyFrom(state);
      size++;
    }

    // The dropped one is used again for the next state to be saved.
    private void dropOldest() {
      Parade oldest = saved[0];
      for (int i = 1; i < MOST_SAVED; i++) {
        saved[i - 1] = saved[i];
      }
      saved[MOST_SAVED - 1] = oldest;
      size--;
    }

    void restoreLatest(Parade state) {
      if (size > 0) {
        size--;
        state.copyFrom(saved[size]);
      }
    }
  }

  /** Reads floats as a text, character by character, and knows the part that it is reading. */
  private static final class PartReader {
    private static final int AT_LETTER = 0;
    private static final int AT_TENS = 1;
    private static final int AT_ONES = 2;
    private static final int AFTER_HEIGHT = 3;
    private static final int AT_FIRST_SHIED = 4;
    private static final int AFTER_SHIED = 5;

    int kind = 0;
    int height = 0;
    int mask = 0;
    private int stage = AT_LETTER;

    void start() {
      stage = AT_LETTER;
    }

    boolean isAfterPart() {
      return stage == AFTER_HEIGHT || stage == AFTER_SHIED;
    }

    boolean accepts(int code) {
      switch (stage) {
        case AT_LETTER:
          return acceptsKind(code);
        case AT_TENS:
          return acceptsDigit(code, 1, AT_ONES);
        case AT_ONES:
          return acceptsDigit(code, 0, AFTER_HEIGHT);
        case AFTER_HEIGHT:
          if (code == '!' && kind == HORSES) {
            stage = AT_FIRST_SHIED;
            return true;
          }
          return acceptsNextPart(code);
        case AT_FIRST_SHIED:
          return acceptsShied(code);
        default:
          return acceptsNextPart(code) || acceptsShied(code);
      }
    }

    private boolean acceptsKind(int code) {
      int letter = kindOf(code);
      if (letter == NONE) {
        return false;
      }
      kind = letter;
      height = 0;
      mask = 0;
      stage = AT_TENS;
      return true;
    }

    private boolean acceptsDigit(int code, int least, int next) {
      int digit = code - '0';
      if (digit < least || digit > 9) {
        return false;
      }
      height = height * 10 + digit;
      stage = next;
      return true;
    }

    private boolean acceptsNextPart(int code) {
      if (code != ';') {
        return false;
      }
      stage = AT_LETTER;
      return true;
    }

    private boolean acceptsShied(int code) {
      int letter = kindOf(code);
      // Unlike letters in their order: none from this one on may be there yet.
      if (letter == NONE || mask >> letter != 0) {
        return false;
      }
      mask |= 1 << letter;
      stage = AFTER_SHIED;
      return true;
    }

    private static int kindOf(int code) {
      switch (code) {
        case 'c':
          return 0;
        case 'h':
          return HORSES;
        case 'b':
          return BAND;
        case 'g':
          return GIANT;
        default:
          return NONE;
      }
    }
  }
}
