import java.util.Arrays;

/** Colours along a row that changes, each place bound to the one ahead of it that is alike. */
public final class SpanColours {
  public static final int NONE = -1;

  private static final int MOST_PLACES = 160;
  private static final int COLOURS = 24;
  private static final int ALL_COLOURS = (1 << COLOURS) - 1;
  private static final int MOST_NAMES = 10000;
  private static final int MOST_WEIGHT = 999;
  private static final int MOST_PARTS = 8;
  private static final int MOST_ASKED = 30;
  private static final int KNOWN_EDITS = 40;
  /** One row more than are known, so that a draft never writes over a known one. */
  private static final int ROWS = KNOWN_EDITS + 1;
  /** No bond bears this number: it marks a place that was not there ahead of the edit. */
  private static final int CAME_NOW = -2;

  private final Timeline timeline = new Timeline();
  private final Palette palette = new Palette();
  private final Listing listing = new Listing();
  private final Neighbours neighbours = new Neighbours();
  private final Reaches reaches = new Reaches();
  private final Shelf shelfOfColours = new Shelf();
  private final Patterns patterns = new Patterns();
  private final Partings partings = new Partings();
  private final Questions questions = new Questions();

  public SpanColours() {
  }

  private static boolean isColour(int colour) {
    return colour >= 0 && colour < COLOURS;
  }

  private static boolean areUnlikeColours(int colour, int other) {
    return isColour(colour) && isColour(other) && colour != other;
  }

  // ---- edits

  public int put(int place, int colour) {
    return paint(place, place, colour);
  }

  public int insert(int place, int colour) {
    Row row = timeline.now;
    if (!row.isGap(place) || !isColour(colour) || !timeline.hasRoomFor(1)) {
      return NONE;
    }
    timeline.begin();
    timeline.keep(0, place - 1);
    timeline.add(colour);
    timeline.keep(place, row.size - 1);
    return timeline.finish();
  }

  public int cut(int l, int r) {
    Row row = timeline.now;
    if (!row.isSpan(l, r)) {
      return NONE;
    }
    timeline.begin();
    timeline.keep(0, l - 1);
    timeline.keep(r + 1, row.size - 1);
    return timeline.finish();
  }

  public int paint(int l, int r, int colour) {
    Row row = timeline.now;
    if (!row.isSpan(l, r) || !isColour(colour)) {
      return NONE;
    }
    timeline.begin();
    timeline.keep(0, l - 1);
    for (int i = l; i <= r; i++) {
      timeline.keepAs(i, colour);
    }
    timeline.keep(r + 1, row.size - 1);
    return timeline.finish();
  }

  public int turn(int l, int r) {
    Row row = timeline.now;
    if (!row.isSpan(l, r)) {
      return NONE;
    }
    timeline.begin();
    timeline.keep(0, l - 1);
    for (int i = r; i >= l; i--) {
      timeline.keep(i, i);
    }
    timeline.keep(r + 1, row.size - 1);
    return timeline.finish();
  }

  public int shift(int l, int r, int n) {
    Row row = timeline.now;
    if (!row.isSpan(l, r) || n < 0 || n > r - l + 1) {
      return NONE;
    }
    timeline.begin();
    timeline.keep(0, l - 1);
    timeline.keep(l + n, r);
    timeline.keep(l, l + n - 1);
    timeline.keep(r + 1, row.size - 1);
    return timeline.finish();
  }

  public int sort(int l, int r) {
    Row row = timeline.now;
    if (!row.isSpan(l, r)) {
      return NONE;
    }
    timeline.begin();
    timeline.keep(0, l - 1);
    for (int colour = 0; colour < COLOURS; colour++) {
      timeline.keepThoseOf(colour, l, r);
    }
    timeline.keep(r + 1, row.size - 1);
    return timeline.finish();
  }

  public int swap(int l, int r, int from, int to) {
    Row row = timeline.now;
    if (!row.isSpan(l, r) || !row.isSpan(from, to)) {
      return NONE;
    }
    if (r < from) {
      return swapInOrder(l, r, from, to);
    }
    return to < l ? swapInOrder(from, to, l, r) : NONE;
  }

  private int swapInOrder(int l, int r, int from, int to) {
    timeline.begin();
    timeline.keep(0, l - 1);
    timeline.keep(from, to);
    timeline.keep(r + 1, from - 1);
    timeline.keep(l, r);
    timeline.keep(to + 1, timeline.now.size - 1);
    return timeline.finish();
  }

  public int copy(int l, int r, int place) {
    Row row = timeline.now;
    if (!row.isSpan(l, r) || !row.isGap(place) || !timeline.hasRoomFor(r - l + 1)) {
      return NONE;
    }
    timeline.begin();
    timeline.keep(0, place - 1);
    for (int i = l; i <= r; i++) {
      timeline.add(row.colours[i]);
    }
    timeline.keep(place, row.size - 1);
    return timeline.finish();
  }

  public int merge(int colour, int into) {
    if (!areUnlikeColours(colour, into)) {
      return NONE;
    }
    Row row = timeline.now;
    timeline.begin();
    for (int i = 0; i < row.size; i++) {
      timeline.keepAs(i, row.colours[i] == colour ? into : row.colours[i]);
    }
    return timeline.finish();
  }

  public int exchange(int colour, int other) {
    if (!areUnlikeColours(colour, other)) {
      return NONE;
    }
    Row row = timeline.now;
    timeline.begin();
    for (int i = 0; i < row.size; i++) {
      int had = row.colours[i];
      timeline.keepAs(i, had == colour ? other : had == other ? colour : had);
    }
    return timeline.finish();
  }

  public int draw(int seed, int n, int colours) {
    boolean inRange = seed >= 0 && seed <= 9999 && n >= 1 && n <= MOST_PLACES;
    if (!inRange || colours < 1 || colours > COLOURS || !timeline.hasRoomFor(n)) {
      return NONE;
    }
    timeline.begin();
    timeline.keep(0, timeline.now.size - 1);
    int state = seed;
    for (int i = 0; i < n; i++) {
      state = (state * 137 + 71) % 10007;
      timeline.add(state % colours);
    }
    return timeline.finish();
  }

  public int weigh(int colour, int weight) {
    if (!isColour(colour) || weight < 0 || weight > MOST_WEIGHT) {
      return NONE;
    }
    int before = palette.weights[colour];
    palette.weights[colour] = weight;
    return before;
  }

  // ---- one by one

  public int at(int place, int what) {
    Row row = timeline.now;
    return what == 3 ? row.nameAt(row.nextAlike(place)) : row.tell(place, what);
  }

  public int place(int name) {
    return timeline.now.placeOf(name);
  }

  public int colour(int colour, int what) {
    if (!isColour(colour)) {
      return NONE;
    }
    Row row = timeline.now;
    switch (what) {
      case 0: return row.howMany(colour);
      case 1: return palette.weights[colour];
      case 2: return row.placeOfNth(colour, 0);
      case 3: return row.placeOfNth(colour, row.howMany(colour) - 1);
      case 4: return row.widestGap(colour);
      default: return NONE;
    }
  }

  public int nth(int colour, int k) {
    return timeline.now.placeOfNth(colour, k);
  }

  public int about(int what) {
    switch (what) {
      case 0: return timeline.now.size;
      case 1: return colourNumber(timeline.now, 0, timeline.now.size - 1);
      case 2: return timeline.named;
      case 3: return timeline.edits;
      case 4: return timeline.touchedInAll;
      case 5: return questions.number;
      default: return NONE;
    }
  }

  private int colourNumber(Row row, int l, int r) {
    palette.read(row, l, r);
    return palette.kinds;
  }

  // ---- a span

  /** Whether l .. r is a span; if so, the palette has its colours then. */
  private boolean readSpan(int l, int r) {
    if (!timeline.now.isSpan(l, r)) {
      return false;
    }
    palette.read(timeline.now, l, r);
    return true;
  }

  public int count(int l, int r) {
    return readSpan(l, r) ? palette.kinds : NONE;
  }

  public int weight(int l, int r) {
    return readSpan(l, r) ? palette.mass : NONE;
  }

  public int set(int l, int r) {
    return readSpan(l, r) ? palette.bits : NONE;
  }

  public int times(int l, int r, int colour) {
    return isColour(colour) && readSpan(l, r) ? palette.counts[colour] : NONE;
  }

  public int often(int l, int r, int t) {
    return t >= 1 && readSpan(l, r) ? palette.kindsFrom(t) : NONE;
  }

  public int report(int l, int r, int k, int what) {
    Row row = timeline.now;
    if (!row.isSpan(l, r)) {
      return NONE;
    }
    int found = listing.reported(row, l, r, k);
    switch (what) {
      case 0: return found;
      case 1: return row.tell(found, 0);
      case 2: return row.tell(found, 2);
      default: return NONE;
    }
  }

  public int kth(int l, int r, int k, int way) {
    return readSpan(l, r) ? listing.colourInOrder(timeline.now, palette, l, r, k, way) : NONE;
  }

  public int absent(int l, int r, int k) {
    return readSpan(l, r) ? listing.colourOf(ALL_COLOURS & ~palette.bits, k) : NONE;
  }

  public int both(int l, int r, int from, int to, int how) {
    if (!readSpan(l, r)) {
      return NONE;
    }
    int first = palette.bits;
    if (!readSpan(from, to)) {
      return NONE;
    }
    int second = palette.bits;
    switch (how) {
      case 0: return Integer.bitCount(first & second);
      case 1: return Integer.bitCount(first & ~second);
      case 2: return Integer.bitCount(first | second);
      default: return NONE;
    }
  }

  public int tally(int l, int r, int t) {
    return t >= 1 && readSpan(l, r) ? palette.kindsOfJust(t) : NONE;
  }

  public int major(int l, int r) {
    return readSpan(l, r) ? listing.colourOf(palette.largerThanPart(2), 0) : NONE;
  }

  public int close(int l, int r, int what) {
    Row row = timeline.now;
    if (!row.isSpan(l, r)) {
      return NONE;
    }
    neighbours.findNearestAlike(row, l, r);
    return neighbours.pairFound(what);
  }

  public int sides(int l, int r) {
    Row row = timeline.now;
    return row.isSpan(l, r) ? neighbours.unlikeTwos(row, l, r) : NONE;
  }

  public int cover(int l, int r) {
    Row row = timeline.now;
    return row.isSpan(l, r) ? neighbours.coveringLength(row, palette, l, r) : NONE;
  }

  public int least(int l, int r, int m) {
    return m >= 1 && readSpan(l, r) ? palette.length - palette.placesOfLargest(m) : NONE;
  }

  public int fair(int l, int r, int m) {
    return m >= 1 && readSpan(l, r) ? palette.largerThanPart(m) : NONE;
  }

  public int alike(int l, int r) {
    return readSpan(l, r) ? palette.twosAlike() : NONE;
  }

  public int even(int l, int r) {
    Row row = timeline.now;
    return row.isSpan(l, r) ? neighbours.evenestEnd(row, palette, l, r) : NONE;
  }

  public int apart(int colour, int other, int what) {
    if (!areUnlikeColours(colour, other)) {
      return NONE;
    }
    neighbours.findNearestOfTwo(timeline.now, colour, other);
    return neighbours.pairFound(what);
  }

  // ---- how far

  public int reach(int l, int k) {
    Row row = timeline.now;
    return k >= 1 && row.has(l) ? reaches.forColours(row, palette, l, k) : NONE;
  }

  public int reachBack(int r, int k) {
    Row row = timeline.now;
    return k >= 1 && row.has(r) ? reaches.backForColours(row, palette, r, k) : NONE;
  }

  public int load(int l, int weight) {
    Row row = timeline.now;
    return weight >= 1 && row.has(l) ? reaches.forMass(row, palette, l, weight) : NONE;
  }

  public int window(int set, int what) {
    int wanted = set & ALL_COLOURS;
    if (wanted == 0) {
      return NONE;
    }
    reaches.findShortestWith(timeline.now, wanted);
    return what == 2 ? reaches.spansWithAll : reaches.endFound(what);
  }

  public int longest(int k, int what) {
    if (k < 1) {
      return NONE;
    }
    reaches.findLongestOf(timeline.now, palette, k);
    return reaches.endFound(what);
  }

  public int unlike(int what) {
    reaches.findLongestUnlike(timeline.now);
    return reaches.endFound(what);
  }

  public int heaviest(int n, int what) {
    if (n < 1 || n > timeline.now.size) {
      return NONE;
    }
    reaches.findHeaviest(timeline.now, palette, n);
    return what == 0 ? reaches.first : what == 1 ? reaches.massFound : NONE;
  }

  // ---- shelves

  public int distance(int place) {
    Row row = timeline.now;
    if (!row.has(place) || row.aheads[place] == NONE) {
      return NONE;
    }
    return colourNumber(row, row.aheads[place] + 1, place - 1);
  }

  public int misses(int n, int rule) {
    if (!Shelf.canBe(n, rule)) {
      return NONE;
    }
    shelfOfColours.goThrough(timeline.now, timeline.now.size - 1, n, rule);
    return shelfOfColours.missed;
  }

  public int shelf(int place, int n, int rule) {
    if (!timeline.now.has(place) || !Shelf.canBe(n, rule)) {
      return NONE;
    }
    shelfOfColours.goThrough(timeline.now, place, n, rule);
    return shelfOfColours.bits;
  }

  public int suffices(int misses, int rule) {
    if (misses < 0) {
      return NONE;
    }
    for (int n = 1; n <= COLOURS && Shelf.canBe(n, rule); n++) {
      shelfOfColours.goThrough(timeline.now, timeline.now.size - 1, n, rule);
      if (shelfOfColours.missed <= misses) {
        return n;
      }
    }
    return NONE;
  }

  // ---- all spans

  public int just(int k) {
    if (k < 1) {
      return 0;
    }
    Row row = timeline.now;
    return patterns.spansUpTo(row, palette, k) - patterns.spansUpTo(row, palette, k - 1);
  }

  public long all() {
    Row row = timeline.now;
    long sum = 0;
    // A place tells its colour for the spans that its bond leaves and that have it.
    for (int i = 0; i < row.size; i++) {
      sum += (long) (i - row.aheads[i]) * (row.size - i);
    }
    return sum;
  }

  public int sets(int n) {
    return n >= 1 && n <= timeline.now.size ? patterns.unlikeSets(timeline.now, palette, n) : 0;
  }

  public int match(int l, int r, int i) {
    if (!timeline.now.isSpan(l, r) || i < NONE) {
      return NONE;
    }
    return patterns.matching(timeline.now, l, r, i);
  }

  public int twin(int what) {
    patterns.findTwin(timeline.now);
    if (patterns.twinLength == 0) {
      return NONE;
    }
    return what == 0 ? patterns.twinFirst : what == 1 ? patterns.twinLength : NONE;
  }

  // ---- partings

  public int parts(int k, int i) {
    return k >= 1 && i >= NONE ? partings.greedy(timeline.now, palette, k, i) : NONE;
  }

  public int best(int m, int i) {
    if (m < 1 || m > MOST_PARTS || m > timeline.now.size || i < NONE || i >= m) {
      return NONE;
    }
    partings.weighUp(timeline.now, palette, m);
    return i == NONE ? partings.worthOf(m, 0) : partings.lastPlaceOf(timeline.now, palette, m, i);
  }

  // ---- as it was

  public int was(int edit, int place, int what) {
    Row row = timeline.behind(edit);
    if (row == null) {
      return NONE;
    }
    return place == NONE ? row.size : row.tell(place, what);
  }

  public int counted(int edit, int l, int r) {
    Row row = timeline.behind(edit);
    return row != null && row.isSpan(l, r) ? colourNumber(row, l, r) : NONE;
  }

  public int touched(int edit) {
    Row row = timeline.behind(edit);
    return row != null && edit >= 1 ? row.touches : NONE;
  }

  public int since(int name) {
    return timeline.steadySince(name);
  }

  public int changed(int edit, int what) {
    Row before = timeline.behind(edit);
    return before != null && what >= 0 && what <= 3 ? timeline.unlikeNow(before, what) : NONE;
  }

  // ---- asked

  public int ask(int name, int other) {
    Row row = timeline.now;
    return row.hasName(name) && row.hasName(other) ? questions.add(NONE, name, other) : NONE;
  }

  public int askOf(int edit, int name, int other) {
    Row row = timeline.behind(edit);
    if (row == null || !row.hasName(name) || !row.hasName(other)) {
      return NONE;
    }
    return questions.add(edit, name, other);
  }

  public int solve() {
    int answered = 0;
    for (int i = 0; i < questions.number; i++) {
      int edit = questions.edits[i];
      Row row = edit == NONE ? timeline.now : timeline.behind(edit);
      if (questions.answer(i, row, palette)) {
        answered++;
      }
    }
    return answered;
  }

  public int asked(int number, int what) {
    return questions.tell(number, what);
  }

  public int forget() {
    int were = questions.number;
    questions.number = 0;
    return were;
  }

  /** The places as they stood behind one edit. */
  private static final class Row {
    final int[] colours = new int[MOST_PLACES];
    final int[] names = new int[MOST_PLACES];
    /** The place of each place's bond: as a row never changes once it is bound, it stays true. */
    final int[] aheads = new int[MOST_PLACES];
    int size;
    int touches;

    boolean has(int place) {
      return place >= 0 && place < size;
    }

    boolean isGap(int place) {
      return place >= 0 && place <= size;
    }

    boolean isSpan(int l, int r) {
      return l >= 0 && l <= r && r < size;
    }

    int nameAt(int place) {
      return has(place) ? names[place] : NONE;
    }

    int bondAt(int place) {
      return has(place) ? nameAt(aheads[place]) : NONE;
    }

    int tell(int place, int what) {
      if (!has(place)) {
        return NONE;
      }
      switch (what) {
        case 0: return colours[place];
        case 1: return names[place];
        case 2: return bondAt(place);
        default: return NONE;
      }
    }

    int placeOf(int name) {
      for (int i = 0; i < size; i++) {
        if (names[i] == name) {
          return i;
        }
      }
      return NONE;
    }

    boolean hasName(int name) {
      return placeOf(name) != NONE;
    }

    int nextAlike(int place) {
      if (!has(place)) {
        return NONE;
      }
      for (int i = place + 1; i < size; i++) {
        if (colours[i] == colours[place]) {
          return i;
        }
      }
      return NONE;
    }

    int howMany(int colour) {
      int found = 0;
      for (int i = 0; i < size; i++) {
        if (colours[i] == colour) {
          found++;
        }
      }
      return found;
    }

    int placeOfNth(int colour, int k) {
      int found = 0;
      for (int i = 0; i < size; i++) {
        if (colours[i] == colour) {
          if (found == k) {
            return i;
          }
          found++;
        }
      }
      return NONE;
    }

    int widestGap(int colour) {
      int widest = NONE;
      for (int i = 0; i < size; i++) {
        if (colours[i] == colour && aheads[i] != NONE) {
          widest = Math.max(widest, i - aheads[i] - 1);
        }
      }
      return widest;
    }
  }

  /** The rows that are known, and the draft from which an edit makes the next one. */
  private static final class Timeline {
    private final Row[] rows = new Row[ROWS];
    /** The bonds that the draft's places had ahead of the edit. */
    private final int[] bondsBefore = new int[MOST_PLACES];
    private final int[] latest = new int[COLOURS];
    private Row draft;
    Row now;
    int edits;
    int named;
    int touchedInAll;

    Timeline() {
      now = new Row();
      draft = now;
      rows[0] = now;
    }

    Row behind(int edit) {
      boolean known = edit >= 0 && edit <= edits && edit > edits - KNOWN_EDITS;
      return known ? rows[edit % ROWS] : null;
    }

    boolean hasRoomFor(int more) {
      return now.size + more <= MOST_PLACES && named + more <= MOST_NAMES;
    }

    void begin() {
      int slot = Math.floorMod(edits + 1, ROWS);
      // Rows are made when first needed, so that an object with few edits stays small.
      if (rows[slot] == null) {
        rows[slot] = new Row();
      }
      draft = rows[slot];
      draft.size = 0;
    }

    void keep(int from, int to) {
      for (int i = from; i <= to && now.has(i); i++) {
        append(now.colours[i], now.names[i], now.bondAt(i));
      }
    }

    void keepAs(int place, int colour) {
      if (now.has(place)) {
        append(colour, now.names[place], now.bondAt(place));
      }
    }

    void keepThoseOf(int colour, int l, int r) {
      for (int i = l; i <= r && now.has(i); i++) {
        if (now.colours[i] == colour) {
          keepAs(i, colour);
        }
      }
    }

    void add(int colour) {
      append(colour, named, CAME_NOW);
      named++;
    }

    private void append(int colour, int name, int bondBefore) {
      int end = draft.size;
      if (end < 0 || end >= MOST_PLACES) {
        return;
      }
      draft.colours[end] = colour;
      draft.names[end] = name;
      bondsBefore[end] = bondBefore;
      draft.size = end + 1;
    }

    int finish() {
      Arrays.fill(latest, NONE);
      int touches = 0;
      for (int i = 0; i < draft.size; i++) {
        int colour = draft.colours[i];
        draft.aheads[i] = latest[colour];
        latest[colour] = i;
        if (bondsBefore[i] != CAME_NOW && bondsBefore[i] != draft.bondAt(i)) {
          touches++;
        }
      }
      draft.touches = touches;
      now = draft;
      edits++;
      touchedInAll += touches;
      return touches;
    }

    int steadySince(int name) {
      int place = now.placeOf(name);
      if (place == NONE) {
        return NONE;
      }
      int bond = now.bondAt(place);
      for (int edit = edits - 1; edit >= 0; edit--) {
        Row row = behind(edit);
        if (row == null || !row.hasName(name) || row.bondAt(row.placeOf(name)) != bond) {
          return edit + 1;
        }
      }
      return 0;
    }

    /** Of the names there then and now: all (what 0), or those with what is unlike. */
    int unlikeNow(Row before, int what) {
      int found = 0;
      for (int i = 0; i < now.size; i++) {
        int then = before.placeOf(now.names[i]);
        if (then != NONE && isUnlike(before, then, i, what)) {
          found++;
        }
      }
      return found;
    }

    private boolean isUnlike(Row before, int then, int place, int what) {
      switch (what) {
        case 0: return true;
        case 1: return then != place;
        case 2: return before.tell(then, 0) != now.tell(place, 0);
        default: return before.bondAt(then) != now.bondAt(place);
      }
    }
  }

  /** The colours of some places, and how often each comes. */
  private static final class Palette {
    final int[] counts = new int[COLOURS];
    final int[] weights = new int[COLOURS];
    int length;
    int kinds;
    int bits;
    int mass;

    Palette() {
      Arrays.fill(weights, 1);
    }

    void clear() {
      Arrays.fill(counts, 0);
      length = 0;
      kinds = 0;
      bits = 0;
      mass = 0;
    }

    void take(int colour) {
      length++;
      counts[colour]++;
      if (counts[colour] == 1) {
        kinds++;
        bits |= 1 << colour;
        mass += weights[colour];
      }
    }

    void drop(int colour) {
      length--;
      counts[colour]--;
      if (counts[colour] == 0) {
        kinds--;
        bits &= ~(1 << colour);
        mass -= weights[colour];
      }
    }

    /** Reads l .. r, which may be empty. */
    void read(Row row, int l, int r) {
      clear();
      for (int i = l; i <= r && row.has(i); i++) {
        take(row.colours[i]);
      }
    }

    int kindsFrom(int t) {
      int found = 0;
      for (int colour = 0; colour < COLOURS; colour++) {
        if (counts[colour] >= t) {
          found++;
        }
      }
      return found;
    }

    int kindsOfJust(int t) {
      int found = 0;
      for (int colour = 0; colour < COLOURS; colour++) {
        if (counts[colour] == t) {
          found++;
        }
      }
      return found;
    }

    /** The colours, as bits, that more than one of m parts of the places have. */
    int largerThanPart(int m) {
      int found = 0;
      for (int colour = 0; colour < COLOURS; colour++) {
        if ((long) counts[colour] * m > length) {
          found |= 1 << colour;
        }
      }
      return found;
    }

    int placesOfLargest(int m) {
      int counted = 0;
      int sum = 0;
      for (int round = 0; round < m && round < COLOURS; round++) {
        int largest = largestBeside(counted);
        if (largest == NONE) {
          return sum;
        }
        counted |= 1 << largest;
        sum += counts[largest];
      }
      return sum;
    }

    private int largestBeside(int counted) {
      int largest = NONE;
      for (int colour = 0; colour < COLOURS; colour++) {
        boolean free = (counted & 1 << colour) == 0;
        if (free && (largest == NONE || counts[colour] > counts[largest])) {
          largest = colour;
        }
      }
      return largest;
    }

    int twosAlike() {
      int sum = 0;
      for (int colour = 0; colour < COLOURS; colour++) {
        sum += counts[colour] * (counts[colour] - 1) / 2;
      }
      return sum;
    }
  }

  /** Places and colours of a span one by one, in the orders that can be asked for. */
  private static final class Listing {
    private final int[] order = new int[COLOURS];
    private final int[] boundTo = new int[MOST_PLACES];
    private int found;

    /** The place of the k-th of the report of l .. r, or NONE. */
    int reported(Row row, int l, int r, int k) {
      Arrays.fill(boundTo, NONE);
      int seen = 0;
      for (int i = l; i <= r; i++) {
        int ahead = row.aheads[i];
        if (ahead == NONE) {
          if (seen == k) {
            return i;
          }
          seen++;
        } else if (ahead < l) {
          boundTo[ahead] = i;
        }
      }
      for (int ahead = 0; ahead < l; ahead++) {
        if (boundTo[ahead] != NONE) {
          if (seen == k) {
            return boundTo[ahead];
          }
          seen++;
        }
      }
      return NONE;
    }

    /** The k-th colour of a set by numbers, or NONE. */
    int colourOf(int set, int k) {
      int seen = 0;
      for (int colour = 0; colour < COLOURS; colour++) {
        if ((set & 1 << colour) != 0) {
          if (seen == k) {
            return colour;
          }
          seen++;
        }
      }
      return NONE;
    }

    /** The k-th colour of l .. r, which the palette has read, or NONE. */
    int colourInOrder(Row row, Palette palette, int l, int r, int k, int way) {
      switch (way) {
        case 0:
          listAsMet(row, l, r, 1);
          break;
        case 1:
          listAsMet(row, r, l, -1);
          break;
        case 2:
          return colourOf(palette.bits, k);
        case 3:
          listByMost(palette, palette.weights);
          break;
        case 4:
          listByMost(palette, palette.counts);
          break;
        default:
          return NONE;
      }
      return k >= 0 && k < found ? order[k] : NONE;
    }

    private void listAsMet(Row row, int from, int to, int step) {
      int met = 0;
      int steps = Math.abs(to - from);
      found = 0;
      for (int i = 0; i <= steps; i++) {
        int colour = row.colours[from + i * step];
        if ((met & 1 << colour) == 0 && found < COLOURS) {
          met |= 1 << colour;
          order[found] = colour;
          found++;
        }
      }
    }

    private void listByMost(Palette palette, int[] keys) {
      found = 0;
      for (int colour = 0; colour < COLOURS; colour++) {
        if (palette.counts[colour] > 0) {
          int spot = found;
          while (spot > 0 && keys[order[spot - 1]] < keys[colour]) {
            order[spot] = order[spot - 1];
            spot--;
          }
          order[spot] = colour;
          found++;
        }
      }
    }
  }

  /** What stands near to what. */
  private static final class Neighbours {
    private final int[] kindsSoFar = new int[MOST_PLACES];
    private final int[] latest = new int[COLOURS];
    private final int[] beside = new int[COLOURS];
    private int pairDistance;
    private int pairFirst;

    int pairFound(int what) {
      return what == 0 ? pairDistance : what == 1 ? pairFirst : NONE;
    }

    private void clearPair() {
      pairDistance = NONE;
      pairFirst = NONE;
    }

    private void offerPair(int first, int second) {
      if (pairDistance == NONE || second - first < pairDistance) {
        pairDistance = second - first;
        pairFirst = first;
      }
    }

    void findNearestAlike(Row row, int l, int r) {
      clearPair();
      for (int i = l; i <= r; i++) {
        if (row.aheads[i] >= l) {
          offerPair(row.aheads[i], i);
        }
      }
    }

    void findNearestOfTwo(Row row, int colour, int other) {
      clearPair();
      int latestOne = NONE;
      int latestOther = NONE;
      for (int i = 0; i < row.size; i++) {
        if (row.colours[i] == colour) {
          latestOne = i;
          if (latestOther != NONE) {
            offerPair(latestOther, i);
          }
        } else if (row.colours[i] == other) {
          latestOther = i;
          if (latestOne != NONE) {
            offerPair(latestOne, i);
          }
        }
      }
    }

    int unlikeTwos(Row row, int l, int r) {
      Arrays.fill(beside, 0);
      int found = 0;
      for (int i = l + 1; i <= r; i++) {
        int less = Math.min(row.colours[i - 1], row.colours[i]);
        int more = Math.max(row.colours[i - 1], row.colours[i]);
        if (less != more && (beside[less] & 1 << more) == 0) {
          beside[less] |= 1 << more;
          found++;
        }
      }
      return found;
    }

    /** The widest step from one place of a colour to its next, the span's ends taken as such. */
    int coveringLength(Row row, Palette palette, int l, int r) {
      palette.read(row, l, r);
      Arrays.fill(latest, l - 1);
      int widest = 1;
      for (int i = l; i <= r; i++) {
        int colour = row.colours[i];
        widest = Math.max(widest, i - latest[colour]);
        latest[colour] = i;
      }
      for (int colour = 0; colour < COLOURS; colour++) {
        if (palette.counts[colour] > 0) {
          widest = Math.max(widest, r + 1 - latest[colour]);
        }
      }
      return widest;
    }

    int evenestEnd(Row row, Palette palette, int l, int r) {
      palette.clear();
      for (int i = l; i <= r; i++) {
        palette.take(row.colours[i]);
        kindsSoFar[i] = palette.kinds;
      }
      palette.clear();
      int end = NONE;
      int leastApart = COLOURS + 1;
      for (int i = r - 1; i >= l; i--) {
        palette.take(row.colours[i + 1]);
        int apartBy = Math.abs(kindsSoFar[i] - palette.kinds);
        // Gone through from behind: a like one further ahead is the one to tell.
        if (apartBy <= leastApart) {
          leastApart = apartBy;
          end = i;
        }
      }
      return end;
    }
  }

  /** How far a span must go, and spans that are the longest, shortest or heaviest. */
  private static final class Reaches {
    private final int[] latest = new int[COLOURS];
    int first;
    int last;
    int massFound;
    int spansWithAll;

    int endFound(int what) {
      return what == 0 ? first : what == 1 ? last : NONE;
    }

    private void clearFound() {
      first = NONE;
      last = NONE;
    }

    private void offerLonger(int l, int r) {
      if (first == NONE || r - l > last - first) {
        first = l;
        last = r;
      }
    }

    int forColours(Row row, Palette palette, int l, int k) {
      palette.clear();
      for (int i = l; i < row.size; i++) {
        palette.take(row.colours[i]);
        if (palette.kinds >= k) {
          return i;
        }
      }
      return NONE;
    }

    int backForColours(Row row, Palette palette, int r, int k) {
      palette.clear();
      for (int i = r; i >= 0; i--) {
        palette.take(row.colours[i]);
        if (palette.kinds >= k) {
          return i;
        }
      }
      return NONE;
    }

    int forMass(Row row, Palette palette, int l, int mass) {
      palette.clear();
      for (int i = l; i < row.size; i++) {
        palette.take(row.colours[i]);
        if (palette.mass >= mass) {
          return i;
        }
      }
      return NONE;
    }

    void findShortestWith(Row row, int wanted) {
      clearFound();
      spansWithAll = 0;
      Arrays.fill(latest, NONE);
      for (int r = 0; r < row.size; r++) {
        latest[row.colours[r]] = r;
        int l = earliestLatest(wanted, r);
        spansWithAll += l + 1;
        if (l != NONE && (first == NONE || r - l < last - first)) {
          first = l;
          last = r;
        }
      }
    }

    /** The greatest l so that l .. r has all colours wanted, or NONE. */
    private int earliestLatest(int wanted, int r) {
      int earliest = r;
      for (int colour = 0; colour < COLOURS; colour++) {
        if ((wanted & 1 << colour) != 0) {
          earliest = Math.min(earliest, latest[colour]);
        }
      }
      return earliest;
    }

    void findLongestOf(Row row, Palette palette, int k) {
      clearFound();
      palette.clear();
      int l = 0;
      for (int r = 0; r < row.size; r++) {
        palette.take(row.colours[r]);
        while (palette.kinds > k && l < r) {
          palette.drop(row.colours[l]);
          l++;
        }
        offerLonger(l, r);
      }
    }

    void findLongestUnlike(Row row) {
      clearFound();
      int l = 0;
      for (int r = 0; r < row.size; r++) {
        l = Math.max(l, row.aheads[r] + 1);
        offerLonger(l, r);
      }
    }

    void findHeaviest(Row row, Palette palette, int n) {
      palette.read(row, 0, n - 1);
      first = 0;
      massFound = palette.mass;
      for (int l = 1; l + n <= row.size; l++) {
        palette.drop(row.colours[l - 1]);
        palette.take(row.colours[l + n - 1]);
        if (palette.mass > massFound) {
          first = l;
          massFound = palette.mass;
        }
      }
    }
  }

  /** A shelf of colours past which the places go. */
  private static final class Shelf {
    private final int[] nextAlike = new int[MOST_PLACES];
    private final int[] metAt = new int[COLOURS];
    private final int[] metAgainAt = new int[COLOURS];
    int missed;
    int bits;

    static boolean canBe(int n, int rule) {
      return n >= 1 && n <= COLOURS && (rule == 0 || rule == 1);
    }

    void goThrough(Row row, int upTo, int n, int rule) {
      findNextAlike(row);
      missed = 0;
      bits = 0;
      for (int i = 0; i <= upTo && row.has(i); i++) {
        int colour = row.colours[i];
        if ((bits & 1 << colour) == 0) {
          missed++;
          if (Integer.bitCount(bits) >= n) {
            bits &= ~(1 << oneToGo(rule));
          }
          bits |= 1 << colour;
        }
        metAt[colour] = i;
        metAgainAt[colour] = nextAlike[i];
      }
    }

    /** A place past the last stands for never, so that never is later than every place. */
    private void findNextAlike(Row row) {
      Arrays.fill(nextAlike, MOST_PLACES);
      for (int i = 0; i < row.size; i++) {
        if (row.aheads[i] != NONE) {
          nextAlike[row.aheads[i]] = i;
        }
      }
    }

    private int oneToGo(int rule) {
      int chosen = NONE;
      for (int colour = 0; colour < COLOURS; colour++) {
        if ((bits & 1 << colour) != 0 && (chosen == NONE || goesRather(colour, chosen, rule))) {
          chosen = colour;
        }
      }
      return Math.max(chosen, 0);
    }

    private boolean goesRather(int colour, int chosen, int rule) {
      if (rule == 0) {
        return metAt[colour] < metAt[chosen];
      }
      return metAgainAt[colour] > metAgainAt[chosen];
    }
  }

  /** All spans together, and those that are alike by pattern. */
  private static final class Patterns {
    private final int[] sets = new int[MOST_PLACES];
    int twinFirst;
    int twinLength;

    /** How many spans have k colours at most. */
    int spansUpTo(Row row, Palette palette, int k) {
      palette.clear();
      int sum = 0;
      int l = 0;
      for (int r = 0; r < row.size; r++) {
        palette.take(row.colours[r]);
        while (palette.kinds > k && l <= r) {
          palette.drop(row.colours[l]);
          l++;
        }
        sum += r - l + 1;
      }
      return sum;
    }

    int unlikeSets(Row row, Palette palette, int n) {
      palette.read(row, 0, n - 1);
      int found = 0;
      for (int l = 0; l + n <= row.size; l++) {
        if (l > 0) {
          palette.drop(row.colours[l - 1]);
          palette.take(row.colours[l + n - 1]);
        }
        if (!isAmong(palette.bits, found)) {
          sets[found] = palette.bits;
          found++;
        }
      }
      return found;
    }

    private boolean isAmong(int set, int found) {
      for (int i = 0; i < found; i++) {
        if (sets[i] == set) {
          return true;
        }
      }
      return false;
    }

    /** How far ahead the bond of a place is within a span from l on, or 0. */
    private static int stepWithin(Row row, int l, int place) {
      return row.aheads[place] >= l ? place - row.aheads[place] : 0;
    }

    int matching(Row row, int l, int r, int i) {
      int seen = 0;
      for (int other = 0; other + r - l < row.size; other++) {
        if (areMatching(row, l, other, r - l + 1)) {
          if (seen == i) {
            return other;
          }
          seen++;
        }
      }
      return i == NONE ? seen : NONE;
    }

    private static boolean areMatching(Row row, int l, int other, int length) {
      for (int i = 0; i < length; i++) {
        if (stepWithin(row, l, l + i) != stepWithin(row, other, other + i)) {
          return false;
        }
      }
      return true;
    }

    void findTwin(Row row) {
      twinFirst = NONE;
      twinLength = 0;
      for (int apartBy = 1; apartBy < row.size; apartBy++) {
        findTwinApart(row, apartBy);
      }
    }

    /** What is within two spans that match matches too, so the end never goes back. */
    private void findTwinApart(Row row, int apartBy) {
      int end = 0;
      for (int l = 0; l + apartBy < row.size; l++) {
        end = Math.max(end, l);
        while (end + apartBy < row.size
            && stepWithin(row, l, end) == stepWithin(row, l + apartBy, end + apartBy)) {
          end++;
        }
        int length = end - l;
        if (length > twinLength || length == twinLength && l < twinFirst) {
          twinFirst = l;
          twinLength = length;
        }
      }
    }
  }

  /** The whole row parted. */
  private static final class Partings {
    /** By number of parts and first place: the most that the places from it on are worth. */
    private final int[][] worths = new int[MOST_PARTS + 1][MOST_PLACES + 1];

    int greedy(Row row, Palette palette, int k, int i) {
      palette.clear();
      int part = 0;
      for (int p = 0; p < row.size; p++) {
        palette.take(row.colours[p]);
        if (palette.kinds > k) {
          if (part == i) {
            return p - 1;
          }
          part++;
          palette.clear();
          palette.take(row.colours[p]);
        }
      }
      if (i == NONE) {
        return row.size == 0 ? 0 : part + 1;
      }
      return part == i ? row.size - 1 : NONE;
    }

    int worthOf(int parts, int l) {
      boolean inRange = parts >= 0 && parts <= MOST_PARTS && l >= 0 && l <= MOST_PLACES;
      return inRange ? worths[parts][l] : NONE;
    }

    /** Goes from behind, so that the parts can then be told from the first on. */
    void weighUp(Row row, Palette palette, int m) {
      for (int parts = 0; parts <= m; parts++) {
        Arrays.fill(worths[parts], NONE);
      }
      worths[0][row.size] = 0;
      for (int l = row.size - 1; l >= 0; l--) {
        palette.clear();
        for (int r = l; r < row.size; r++) {
          palette.take(row.colours[r]);
          for (int parts = 1; parts <= m; parts++) {
            int rest = worths[parts - 1][r + 1];
            if (rest != NONE) {
              worths[parts][l] = Math.max(worths[parts][l], palette.kinds + rest);
            }
          }
        }
      }
    }

    int lastPlaceOf(Row row, Palette palette, int m, int i) {
      int end = NONE;
      for (int part = 0; part <= i; part++) {
        end = shortestBestEnd(row, palette, end + 1, m - part);
      }
      return end;
    }

    private int shortestBestEnd(Row row, Palette palette, int l, int parts) {
      palette.clear();
      for (int r = l; r < row.size; r++) {
        palette.take(row.colours[r]);
        int rest = worthOf(parts - 1, r + 1);
        if (rest != NONE && palette.kinds + rest == worthOf(parts, l)) {
          return r;
        }
      }
      return NONE;
    }
  }

  /** What is asked, with its answers. */
  private static final class Questions {
    private final int[] names = new int[MOST_ASKED];
    private final int[] others = new int[MOST_ASKED];
    private final int[] kinds = new int[MOST_ASKED];
    private final int[] masses = new int[MOST_ASKED];
    final int[] edits = new int[MOST_ASKED];
    int number;

    int add(int edit, int name, int other) {
      if (number < 0 || number >= MOST_ASKED) {
        return NONE;
      }
      int added = number;
      names[added] = name;
      others[added] = other;
      edits[added] = edit;
      kinds[added] = NONE;
      masses[added] = NONE;
      number++;
      return added;
    }

    /** Answers one by a row, which is null if it is not known; tells whether it could. */
    boolean answer(int i, Row row, Palette palette) {
      kinds[i] = NONE;
      masses[i] = NONE;
      if (row == null) {
        return false;
      }
      int one = row.placeOf(names[i]);
      int other = row.placeOf(others[i]);
      if (one == NONE || other == NONE) {
        return false;
      }
      palette.read(row, Math.min(one, other), Math.max(one, other));
      kinds[i] = palette.kinds;
      masses[i] = palette.mass;
      return true;
    }

    int tell(int i, int what) {
      if (i < 0 || i >= number) {
        return NONE;
      }
      switch (what) {
        case 0: return kinds[i];
        case 1: return masses[i];
        case 2: return names[i];
        case 3: return others[i];
        case 4: return edits[i];
        default: return NONE;
      }
    }
  }
}
