/** Each promise by hand: what is usual, the edges that the document names, and what can't be. */
public final class PromiseTest {
  private static final int NONE = -1;
  private static final int MIN = Integer.MIN_VALUE;
  private static final int MAX = Integer.MAX_VALUE;
  private static int promise = 0;
  private static int checks = 0;
  private static int wrong = 0;

  private static void due(String call, long got, long want) {
    checks++;
    if (got != want) {
      wrong++;
      System.out.println("promise " + promise + ": " + call + " answered " + got + ", due is " + want);
    }
  }

  private static void due(String call, String got, String want) {
    checks++;
    if (!got.equals(want)) {
      wrong++;
      System.out.println("promise " + promise + ": " + call + " gave " + got + ", due is " + want);
    }
  }

  /** A row with a colour for each letter, a being 0; the names are 0, 1, 2 and so on. */
  private static SpanColours of(String letters) {
    SpanColours x = new SpanColours();
    for (int i = 0; i < letters.length(); i++) {
      x.insert(i, letters.charAt(i) - 'a');
    }
    return x;
  }

  private static String show(SpanColours x) {
    StringBuilder made = new StringBuilder();
    for (int i = 0; i < x.about(0); i++) {
      made.append((char) ('a' + x.at(i, 0)));
    }
    return made.toString();
  }

  private static String names(SpanColours x) {
    StringBuilder made = new StringBuilder();
    for (int i = 0; i < x.about(0); i++) {
      made.append(i == 0 ? "" : ",").append(x.at(i, 1));
    }
    return made.toString();
  }

  private static int bits(String letters) {
    int made = 0;
    for (int i = 0; i < letters.length(); i++) {
      made |= 1 << letters.charAt(i) - 'a';
    }
    return made;
  }

  /** The row, the edits and the names are as they were. */
  private static void dueUntouched(SpanColours x, String row, int edits, int named) {
    due("the row behind what can't be", show(x), row);
    due("edits behind what can't be", x.about(3), edits);
    due("names behind what can't be", x.about(2), named);
  }

  private static void newObject() {
    promise = 1;
    SpanColours x = new SpanColours();
    for (int what = 0; what <= 5; what++) {
      due("about", x.about(what), 0);
    }
    for (int colour = 0; colour < 24; colour++) {
      due("a weight", x.colour(colour, 1), 1);
    }
    due("the row at first", x.was(0, NONE, 0), 0);
    due("the constant", SpanColours.NONE, -1);
  }

  private static void put() {
    promise = 2;
    SpanColours x = of("aba");
    due("put", x.put(0, 1), 2);
    due("row", show(x), "bba");
    due("names stay", names(x), "0,1,2");
    due("the same again", x.put(0, 1), 0);
    due("is an edit", x.about(3), 5);
    due("behind the last", x.put(3, 0), NONE);
    due("ahead of the first", x.put(-1, 0), NONE);
    due("no such colour", x.put(0, 24), NONE);
    due("no such colour", x.put(0, -1), NONE);
    due("far off", x.put(MAX, 0), NONE);
    dueUntouched(x, "bba", 5, 3);
    due("the last colour", x.put(2, 23), 0);
    due("the last colour is there", x.at(2, 0), 23);
  }

  private static void insert() {
    promise = 3;
    SpanColours x = of("aa");
    due("insert between", x.insert(1, 0), 1);
    due("names", names(x), "0,2,1");
    due("behind all", x.insert(3, 1), 0);
    due("ahead of all", x.insert(0, 1), 1);
    due("row", show(x), "baaab");
    due("too far behind", x.insert(6, 1), NONE);
    due("ahead of the first", x.insert(-1, 1), NONE);
    due("no such colour", x.insert(0, 24), NONE);
    due("no such colour", x.insert(0, MIN), NONE);
    dueUntouched(x, "baaab", 5, 5);
    SpanColours full = new SpanColours();
    full.draw(1, 159, 7);
    due("the 160th", full.insert(159, 23), 0);
    due("one more than 160", full.insert(0, 0), NONE);
    due("names given", full.about(2), 160);
  }

  private static SpanColours withNames(int given) {
    SpanColours x = new SpanColours();
    for (int i = 0; i < given / 160; i++) {
      x.draw(i, 160, 4);
      x.cut(0, 159);
    }
    if (given % 160 > 0) {
      x.draw(0, given % 160, 4);
    }
    return x;
  }

  private static void lastNames() {
    promise = 3;
    SpanColours x = withNames(9999);
    int size = x.about(0);
    due("one name left", x.about(2), 9999);
    int edits = x.about(3);
    due("no names for two", x.draw(0, 2, 4), NONE);
    due("no names for a copy of two", x.copy(0, 1, 0), NONE);
    due("nothing happened", x.about(3), edits);
    x.insert(size, 5);
    due("the last name", x.at(size, 1), 9999);
    due("the place of the last name", x.place(9999), size);
    due("no name left", x.insert(0, 0), NONE);
    due("no name left to copy", x.copy(0, 0, 0), NONE);
    due("no name left to draw", x.draw(0, 1, 1), NONE);
    due("names given", x.about(2), 10000);
    due("edits", x.about(3), edits + 1);
    due("a cut still can be", x.cut(0, 0) >= 0 ? 1 : 0, 1);
    due("still none left", x.insert(0, 0), NONE);
    SpanColours copied = withNames(9999);
    copied.copy(0, 0, 0);
    due("the last name by copy", copied.at(0, 1), 9999);
  }

  private static void cut() {
    promise = 4;
    SpanColours x = of("abcab");
    due("cut", x.cut(0, 1), 2);
    due("row", show(x), "cab");
    due("names", names(x), "2,3,4");
    due("a gone one", x.place(0), NONE);
    due("l behind r", x.cut(1, 0), NONE);
    due("r not there", x.cut(0, 3), NONE);
    due("l below 0", x.cut(-1, 0), NONE);
    dueUntouched(x, "cab", 6, 5);
    due("all", x.cut(0, 2), 0);
    due("none is left", x.about(0), 0);
    x.insert(0, 0);
    due("names are not given twice", x.at(0, 1), 5);
  }

  private static void paint() {
    promise = 5;
    SpanColours x = of("abcab");
    due("paint", x.paint(1, 3, 2), 3);
    due("row", show(x), "acccb");
    due("names", names(x), "0,1,2,3,4");
    due("again", x.paint(1, 3, 2), 0);
    due("no such colour", x.paint(1, 3, 24), NONE);
    due("no such colour", x.paint(1, 3, -1), NONE);
    due("l behind r", x.paint(3, 1, 0), NONE);
    due("r not there", x.paint(0, 5, 0), NONE);
    dueUntouched(x, "acccb", 7, 5);
  }

  private static void turn() {
    promise = 6;
    SpanColours x = of("aab");
    due("turn", x.turn(0, 1), 2);
    due("names", names(x), "1,0,2");
    due("turn all", x.turn(0, 2), 2);
    due("row", show(x), "baa");
    due("names", names(x), "2,0,1");
    due("one", x.turn(1, 1), 0);
    due("r not there", x.turn(0, 3), NONE);
    due("l behind r", x.turn(2, 1), NONE);
    dueUntouched(x, "baa", 6, 3);
  }

  private static void shift() {
    promise = 7;
    SpanColours x = of("abcde");
    due("shift", x.shift(1, 4, 1), 0);
    due("row", show(x), "acdeb");
    due("none of them", x.shift(1, 4, 0), 0);
    due("all of them", x.shift(1, 4, 4), 0);
    due("row", show(x), "acdeb");
    due("more than all", x.shift(1, 4, 5), NONE);
    due("fewer than none", x.shift(1, 4, -1), NONE);
    due("l behind r", x.shift(4, 1, 0), NONE);
    due("far off", x.shift(1, 4, MAX), NONE);
    dueUntouched(x, "acdeb", 8, 5);
    SpanColours y = of("aab");
    due("bonds", y.shift(0, 2, 1), 2);
    due("names", names(y), "1,2,0");
    due("three of five", of("abcde").shift(0, 4, 3), 0);
  }

  private static void sort() {
    promise = 8;
    SpanColours x = of("cabca");
    due("sort", x.sort(0, 4), 0);
    due("row", show(x), "aabcc");
    due("like ones as they stood", names(x), "1,4,2,0,3");
    SpanColours y = of("bxaba");
    due("within", y.sort(1, 3), 0);
    due("row", show(y), "babxa");
    due("names", names(y), "0,2,3,1,4");
    due("r not there", y.sort(0, 5), NONE);
    due("l behind r", y.sort(2, 1), NONE);
    dueUntouched(y, "babxa", 6, 5);
    SpanColours z = of("xwvut");
    z.sort(0, 4);
    due("all the other way", show(z), "tuvwx");
  }

  private static void swap() {
    promise = 9;
    SpanColours x = of("abcde");
    due("swap", x.swap(0, 0, 3, 4), 0);
    due("row", show(x), "debca");
    SpanColours y = of("abcde");
    due("the second ahead", y.swap(3, 4, 0, 0), 0);
    due("row", show(y), "debca");
    SpanColours z = of("abcde");
    due("side by side", z.swap(0, 1, 2, 3), 0);
    due("row", show(z), "cdabe");
    due("a place in common", z.swap(0, 2, 2, 3), NONE);
    due("one within", z.swap(0, 4, 2, 2), NONE);
    due("the same", z.swap(1, 1, 1, 1), NONE);
    due("the second not there", z.swap(0, 1, 4, 5), NONE);
    due("the first none", z.swap(1, 0, 3, 3), NONE);
    dueUntouched(z, "cdabe", 6, 5);
    SpanColours bonds = of("aba");
    due("bonds", bonds.swap(0, 0, 2, 2), 2);
    due("names", names(bonds), "2,1,0");
  }

  private static void copy() {
    promise = 10;
    SpanColours x = of("abc");
    due("copy into itself", x.copy(0, 1, 1), 1);
    due("row", show(x), "aabbc");
    due("names", names(x), "0,3,4,1,2");
    due("behind all", x.copy(3, 4, 5), 0);
    due("row", show(x), "aabbcbc");
    due("ahead of all", x.copy(4, 4, 0), 1);
    due("row", show(x), "caabbcbc");
    due("place not there", x.copy(0, 0, 9), NONE);
    due("place not there", x.copy(0, 0, -1), NONE);
    due("no span", x.copy(1, 0, 0), NONE);
    dueUntouched(x, "caabbcbc", 6, 8);
    SpanColours y = new SpanColours();
    y.draw(3, 100, 5);
    due("too many", y.copy(0, 60, 0), NONE);
    due("just so many", y.copy(0, 59, 100), 0);
    due("160", y.about(0), 160);
    due("no more", y.copy(0, 0, 0), NONE);
  }

  private static void merge() {
    promise = 11;
    SpanColours x = of("abab");
    due("merge", x.merge(0, 1), 3);
    due("row", show(x), "bbbb");
    due("of none", x.merge(5, 6), 0);
    due("is an edit", x.about(3), 6);
    due("like colours", x.merge(1, 1), NONE);
    due("no such colour", x.merge(24, 1), NONE);
    due("no such colour", x.merge(1, -1), NONE);
    dueUntouched(x, "bbbb", 6, 4);
  }

  private static void exchange() {
    promise = 12;
    SpanColours x = of("abca");
    due("exchange", x.exchange(0, 1), 0);
    due("row", show(x), "bacb");
    due("with one that is not there", x.exchange(1, 5), 0);
    due("row", show(x), "facf");
    due("of none", x.exchange(8, 9), 0);
    due("like colours", x.exchange(1, 1), NONE);
    due("no such colour", x.exchange(1, 24), NONE);
    due("no such colour", x.exchange(-1, 2), NONE);
    dueUntouched(x, "facf", 7, 4);
  }

  private static void draw() {
    promise = 13;
    SpanColours x = of("a");
    due("draw", x.draw(0, 3, 4), 0);
    due("row", show(x), "adcd");
    due("names", names(x), "0,1,2,3");
    due("seed too great", x.draw(10000, 3, 4), NONE);
    due("seed below 0", x.draw(-1, 3, 4), NONE);
    due("none", x.draw(0, 0, 4), NONE);
    due("no colours", x.draw(0, 3, 0), NONE);
    due("too many colours", x.draw(0, 3, 25), NONE);
    due("too many places together", x.draw(0, 157, 4), NONE);
    due("too many places", x.draw(0, MAX, 4), NONE);
    dueUntouched(x, "adcd", 2, 4);
    due("just so many places", x.draw(9999, 156, 24), 0);
    due("9999 becomes 8982", x.at(4, 0), 8982 % 24);
    due("160", x.about(0), 160);
    SpanColours one = new SpanColours();
    one.draw(5, 4, 1);
    due("one colour", show(one), "aaaa");
  }

  private static void weigh() {
    promise = 14;
    SpanColours x = of("ab");
    due("weigh", x.weigh(0, 999), 1);
    due("weigh", x.weigh(0, 0), 999);
    due("it weighs", x.colour(0, 1), 0);
    due("a colour that is not there", x.weigh(23, 7), 1);
    due("no edit", x.about(3), 2);
    due("too heavy", x.weigh(0, 1000), NONE);
    due("below 0", x.weigh(0, -1), NONE);
    due("no such colour", x.weigh(24, 1), NONE);
    due("no such colour", x.weigh(-1, 1), NONE);
    due("nothing happened", x.colour(0, 1), 0);
  }

  private static void at() {
    promise = 15;
    SpanColours x = of("aba");
    x.turn(0, 2);
    due("colour", x.at(1, 0), 1);
    due("name", x.at(0, 1), 2);
    due("bond", x.at(2, 2), 2);
    due("no bond", x.at(0, 2), NONE);
    due("next behind", x.at(0, 3), 0);
    due("none behind", x.at(2, 3), NONE);
    due("another what", x.at(0, 4), NONE);
    due("another what", x.at(0, -1), NONE);
    due("no such place", x.at(3, 0), NONE);
    due("no such place", x.at(-1, 3), NONE);
  }

  private static void place() {
    promise = 16;
    SpanColours x = of("abc");
    x.shift(0, 2, 1);
    due("place", x.place(0), 2);
    due("place", x.place(1), 0);
    x.cut(0, 0);
    due("gone", x.place(1), NONE);
    due("none yet", x.place(3), NONE);
    due("below 0", x.place(-1), NONE);
    due("far off", x.place(MAX), NONE);
  }

  private static void colour() {
    promise = 17;
    SpanColours x = of("abbabbbac");
    due("how many", x.colour(0, 0), 3);
    due("weight", x.colour(0, 1), 1);
    due("first", x.colour(1, 2), 1);
    due("last", x.colour(0, 3), 7);
    due("widest", x.colour(0, 4), 3);
    due("widest", x.colour(1, 4), 1);
    due("one alone", x.colour(2, 4), NONE);
    due("side by side", of("aa").colour(0, 4), 0);
    due("none has it", x.colour(3, 0), 0);
    due("none has it", x.colour(3, 2), NONE);
    due("none has it", x.colour(3, 3), NONE);
    due("another what", x.colour(0, 5), NONE);
    due("another what", x.colour(0, -1), NONE);
    due("no such colour", x.colour(24, 1), NONE);
    due("no such colour", x.colour(-1, 0), NONE);
  }

  private static void nth() {
    promise = 18;
    SpanColours x = of("abba");
    due("first", x.nth(1, 0), 1);
    due("second", x.nth(0, 1), 3);
    due("not so many", x.nth(0, 2), NONE);
    due("below 0", x.nth(0, -1), NONE);
    due("no such colour", x.nth(24, 0), NONE);
    due("no such colour", x.nth(-1, 0), NONE);
  }

  private static void about() {
    promise = 19;
    SpanColours x = of("aab");
    x.turn(0, 1);
    x.cut(2, 2);
    x.ask(0, 1);
    x.put(0, 3);
    due("places", x.about(0), 2);
    due("colours", x.about(1), 2);
    due("names", x.about(2), 3);
    due("edits", x.about(3), 6);
    due("touched", x.about(4), 3);
    due("asked", x.about(5), 1);
    due("another what", x.about(6), NONE);
    due("another what", x.about(-1), NONE);
  }

  /** What each of the calls that take a span answers where there is none. */
  private static void noSpan() {
    SpanColours x = of("abc");
    int[][] none = {{-1, 0}, {2, 1}, {0, 3}, {3, 3}, {MIN, MAX}, {0, MAX}, {MIN, 0}};
    for (int[] s : none) {
      int l = s[0];
      int r = s[1];
      long[] got = {
        x.count(l, r), x.weight(l, r), x.set(l, r), x.times(l, r, 0), x.often(l, r, 1),
        x.report(l, r, 0, 0), x.kth(l, r, 0, 0), x.absent(l, r, 0), x.both(l, r, 0, 0, 2),
        x.tally(l, r, 1), x.major(l, r), x.close(l, r, 0), x.sides(l, r), x.cover(l, r),
        x.least(l, r, 1), x.fair(l, r, 9), x.alike(l, r), x.even(l, r)};
      for (int i = 0; i < got.length; i++) {
        promise = 20 + i;
        due("no span " + l + " .. " + r, got[i], NONE);
      }
      promise = 28;
      due("no second span", x.both(0, 0, l, r, 2), NONE);
    }
  }

  private static void coloursOfSpans() {
    SpanColours x = of("abacabad");
    x.weigh(2, 50);
    x.weigh(3, 0);
    promise = 20;
    due("count", x.count(0, 7), 4);
    due("count", x.count(4, 6), 2);
    due("one", x.count(3, 3), 1);
    promise = 21;
    due("weight", x.weight(0, 7), 52);
    due("weight", x.weight(4, 7), 2);
    due("nothing", x.weight(7, 7), 0);
    promise = 22;
    due("set", x.set(2, 4), bits("ac"));
    due("the last colour", of("x").set(0, 0), 1 << 23);
    promise = 23;
    due("times", x.times(0, 7, 0), 4);
    due("none of it", x.times(0, 2, 3), 0);
    due("no such colour", x.times(0, 2, 24), NONE);
    due("no such colour", x.times(0, 2, -1), NONE);
    promise = 24;
    due("often", x.often(0, 7, 1), 4);
    due("often", x.often(0, 7, 2), 2);
    due("often", x.often(0, 7, 4), 1);
    due("often", x.often(0, 7, 5), 0);
    due("t below 1", x.often(0, 7, 0), NONE);
    due("t far off", x.often(0, 7, MAX), 0);
  }

  private static void report() {
    promise = 25;
    SpanColours x = of("abbacad");
    due("without bond first", x.report(2, 6, 0, 0), 4);
    due("by place", x.report(2, 6, 1, 0), 6);
    due("then by the place of the bond", x.report(2, 6, 2, 0), 3);
    due("then by the place of the bond", x.report(2, 6, 3, 0), 2);
    due("not so many", x.report(2, 6, 4, 0), NONE);
    due("colour", x.report(2, 6, 3, 1), 1);
    due("bond", x.report(2, 6, 3, 2), 1);
    due("bond", x.report(2, 6, 2, 2), 0);
    due("no bond", x.report(2, 6, 0, 2), NONE);
    due("below 0", x.report(2, 6, -1, 0), NONE);
    due("another what", x.report(2, 6, 0, 3), NONE);
    due("another what", x.report(2, 6, 0, -1), NONE);
  }

  private static void kth() {
    promise = 26;
    SpanColours x = of("cabaacdb");
    x.weigh(1, 9);
    x.weigh(3, 9);
    int[][] want = {{0, 1, 2, 3}, {1, 3, 2, 0}, {0, 1, 2, 3}, {1, 3, 0, 2}, {0, 1, 2, 3}};
    for (int way = 0; way < 5; way++) {
      for (int k = 0; k < 4; k++) {
        due("way " + way + " k " + k, x.kth(1, 7, k, way), want[way][k]);
      }
      due("not so many", x.kth(1, 7, 4, way), NONE);
      due("below 0", x.kth(1, 7, -1, way), NONE);
    }
    due("the most often", x.kth(5, 7, 0, 4), 1);
    due("the most often in it", of("bbacca").kth(2, 4, 0, 4), 2);
    due("another way", x.kth(1, 7, 0, 5), NONE);
    due("another way", x.kth(1, 7, 0, -1), NONE);
  }

  private static void moreOfSpans() {
    SpanColours x = of("abacabad");
    promise = 27;
    due("absent", x.absent(0, 2, 0), 2);
    due("absent", x.absent(0, 2, 21), 23);
    due("not so many", x.absent(0, 2, 22), NONE);
    due("below 0", x.absent(0, 2, -1), NONE);
    promise = 28;
    due("both", x.both(0, 1, 2, 3, 0), 1);
    due("the first alone", x.both(0, 1, 2, 3, 1), 1);
    due("either", x.both(0, 1, 2, 3, 2), 3);
    due("one within", x.both(0, 7, 3, 3, 1), 3);
    due("another how", x.both(0, 1, 2, 3, 3), NONE);
    due("another how", x.both(0, 1, 2, 3, -1), NONE);
    promise = 29;
    due("tally", x.tally(0, 7, 1), 2);
    due("tally", x.tally(0, 7, 2), 1);
    due("tally", x.tally(0, 7, 3), 0);
    due("tally", x.tally(0, 7, 4), 1);
    due("t below 1", x.tally(0, 7, 0), NONE);
    due("t far off", x.tally(0, 7, MAX), 0);
    promise = 30;
    due("just half", x.major(0, 7), NONE);
    due("more than half", x.major(0, 6), 0);
    due("one", x.major(3, 3), 2);
    promise = 31;
    SpanColours y = of("abcbaa");
    due("nearest", y.close(0, 5, 0), 1);
    due("nearest", y.close(0, 4, 0), 2);
    due("its first", y.close(0, 4, 1), 1);
    due("of several the first", x.close(0, 7, 1), 0);
    due("none", y.close(0, 2, 0), NONE);
    due("none", y.close(0, 2, 1), NONE);
    due("one behind the end", y.close(2, 4, 0), NONE);
    due("another what", y.close(0, 4, 2), NONE);
    promise = 32;
    due("sides", x.sides(0, 7), 3);
    due("like ones don't count", of("aabba").sides(0, 4), 1);
    due("one", x.sides(3, 3), 0);
  }

  private static void partsOfSpans() {
    promise = 33;
    due("cover", of("abcab").cover(0, 4), 3);
    due("by the first", of("aab").cover(0, 2), 3);
    due("by the last", of("baa").cover(0, 2), 3);
    due("one colour", of("aaa").cover(0, 2), 1);
    due("between", of("abbba").cover(0, 4), 4);
    due("within", of("cababac").cover(1, 5), 2);
    promise = 34;
    SpanColours x = of("abacabad");
    due("least", x.least(0, 7, 1), 4);
    due("least", x.least(0, 7, 2), 2);
    due("least", x.least(0, 7, 3), 1);
    due("least", x.least(0, 7, 4), 0);
    due("far off", x.least(0, 7, MAX), 0);
    due("m below 1", x.least(0, 7, 0), NONE);
    promise = 35;
    due("of one part none", x.fair(0, 7, 1), 0);
    due("just the half", x.fair(0, 7, 2), 0);
    due("more than a third", x.fair(0, 7, 3), bits("a"));
    due("just a quarter", x.fair(0, 7, 4), bits("a"));
    due("more than a fifth", x.fair(0, 7, 5), bits("ab"));
    due("more than a ninth", x.fair(0, 7, 9), bits("abcd"));
    due("far off", x.fair(0, 7, MAX), bits("abcd"));
    due("m below 1", x.fair(0, 7, 0), NONE);
    promise = 36;
    due("alike", x.alike(0, 7), 7);
    due("none", x.alike(3, 4), 0);
    promise = 37;
    due("even", x.even(0, 7), 3);
    due("of several the first", of("aaa").even(0, 2), 0);
    due("within", x.even(3, 4), 3);
    due("one place", x.even(3, 3), NONE);
    due("never even, the first of two", of("abcdaaaa").even(0, 7), 1);
  }

  private static void apart() {
    promise = 38;
    SpanColours x = of("accbccabb");
    due("apart", x.apart(0, 1, 0), 1);
    due("the one ahead", x.apart(0, 1, 1), 6);
    due("the other way", x.apart(1, 0, 1), 6);
    due("of several the first", x.apart(2, 1, 1), 2);
    due("farther", of("abccba").apart(0, 2, 0), 2);
    due("farther", of("abccba").apart(0, 2, 1), 0);
    due("none", x.apart(0, 3, 0), NONE);
    due("none", x.apart(3, 0, 1), NONE);
    due("like", x.apart(0, 0, 0), NONE);
    due("no such colour", x.apart(0, 24, 0), NONE);
    due("no such colour", x.apart(-1, 0, 0), NONE);
    due("another what", x.apart(0, 1, 2), NONE);
  }

  private static void howFar() {
    SpanColours x = of("aabacb");
    promise = 39;
    due("reach", x.reach(0, 1), 0);
    due("reach", x.reach(0, 2), 2);
    due("reach", x.reach(0, 3), 4);
    due("reach", x.reach(3, 3), 5);
    due("none", x.reach(0, 4), NONE);
    due("none from there", x.reach(4, 3), NONE);
    due("k below 1", x.reach(0, 0), NONE);
    due("no such place", x.reach(6, 1), NONE);
    due("no such place", x.reach(-1, 1), NONE);
    promise = 40;
    due("back", x.reachBack(5, 1), 5);
    due("back", x.reachBack(5, 2), 4);
    due("back", x.reachBack(5, 3), 3);
    due("none", x.reachBack(3, 3), NONE);
    due("k below 1", x.reachBack(5, 0), NONE);
    due("no such place", x.reachBack(6, 1), NONE);
    due("no such place", x.reachBack(-1, 1), NONE);
    promise = 41;
    x.weigh(0, 0);
    x.weigh(2, 10);
    due("load", x.load(0, 1), 2);
    due("load", x.load(0, 2), 4);
    due("load", x.load(0, 11), 4);
    due("too much", x.load(0, 12), NONE);
    due("weight below 1", x.load(0, 0), NONE);
    due("no such place", x.load(6, 1), NONE);
    due("no such place", x.load(-1, 1), NONE);
  }

  private static void window() {
    promise = 42;
    SpanColours x = of("abcabxc");
    due("l", x.window(bits("abc"), 0), 0);
    due("r", x.window(bits("abc"), 1), 2);
    due("how many", x.window(bits("abc"), 2), 13);
    due("l", x.window(bits("ac"), 0), 2);
    due("r", x.window(bits("ac"), 1), 3);
    due("one colour", x.window(bits("b"), 0), 1);
    due("the last colour", x.window(bits("x"), 1), 5);
    due("none has", x.window(bits("ad"), 0), NONE);
    due("none has", x.window(bits("ad"), 1), NONE);
    due("none has", x.window(bits("ad"), 2), 0);
    due("none in the set", x.window(0, 2), NONE);
    due("no such colours in the set", x.window(1 << 24, 2), NONE);
    due("another what", x.window(1, 3), NONE);
    due("another what", x.window(1, -1), NONE);
  }

  private static void longSpans() {
    SpanColours x = of("abbcabca");
    promise = 43;
    due("l", x.longest(1, 0), 1);
    due("r", x.longest(1, 1), 2);
    due("of several the first", x.longest(2, 0), 0);
    due("of several the first", x.longest(2, 1), 2);
    due("all", x.longest(3, 1), 7);
    due("far off", x.longest(MAX, 1), 7);
    due("k below 1", x.longest(0, 0), NONE);
    due("another what", x.longest(1, 2), NONE);
    due("without places", new SpanColours().longest(1, 0), NONE);
    promise = 44;
    due("l", x.unlike(0), 2);
    due("r", x.unlike(1), 4);
    due("another what", x.unlike(2), NONE);
    due("another what", x.unlike(-1), NONE);
    due("without places", new SpanColours().unlike(1), NONE);
    promise = 45;
    x.weigh(2, 5);
    due("l", x.heaviest(1, 0), 3);
    due("its weight", x.heaviest(1, 1), 5);
    due("of several the first", x.heaviest(2, 0), 2);
    due("each told once", x.heaviest(8, 1), 7);
    due("none so long", x.heaviest(9, 0), NONE);
    due("n below 1", x.heaviest(0, 0), NONE);
    due("another what", x.heaviest(1, 2), NONE);
  }

  private static void shelves() {
    SpanColours x = of("abcabdacb");
    promise = 46;
    due("distance", x.distance(3), 2);
    due("distance", x.distance(6), 2);
    due("distance", x.distance(7), 3);
    due("side by side", of("aa").distance(1), 0);
    due("no bond", x.distance(5), NONE);
    due("no such place", x.distance(9), NONE);
    due("no such place", x.distance(-1), NONE);
    promise = 47;
    due("rule 0", x.misses(1, 0), 9);
    due("rule 0", x.misses(2, 0), 9);
    due("rule 0", x.misses(3, 0), 6);
    due("rule 0", x.misses(4, 0), 4);
    due("rule 1", x.misses(2, 1), 7);
    due("rule 1", x.misses(3, 1), 5);
    due("rule 1", x.misses(24, 1), 4);
    due("no places", new SpanColours().misses(24, 1), 0);
    due("n below 1", x.misses(0, 0), NONE);
    due("n above 24", x.misses(25, 0), NONE);
    due("another rule", x.misses(1, 2), NONE);
    due("another rule", x.misses(1, -1), NONE);
    promise = 48;
    due("rule 0", x.shelf(1, 2, 0), bits("ab"));
    due("rule 0", x.shelf(5, 3, 0), bits("abd"));
    due("rule 0", x.shelf(7, 3, 0), bits("adc"));
    due("rule 1", x.shelf(2, 2, 1), bits("ac"));
    due("rule 1, never again", of("bac").shelf(2, 2, 1), bits("bc"));
    due("rule 1, the least of those", of("cbad").shelf(3, 3, 1), bits("cbd"));
    due("rule 1, never is latest", of("baca").shelf(2, 2, 1), bits("ac"));
    due("no such place", x.shelf(9, 1, 0), NONE);
    due("no such place", x.shelf(-1, 1, 0), NONE);
    due("n above 24", x.shelf(0, 25, 0), NONE);
    due("another rule", x.shelf(0, 1, 2), NONE);
    promise = 49;
    due("rule 0", x.suffices(4, 0), 4);
    due("rule 0", x.suffices(6, 0), 3);
    due("rule 0", x.suffices(8, 0), 3);
    due("rule 0", x.suffices(9, 0), 1);
    due("rule 1", x.suffices(5, 1), 3);
    due("by none", x.suffices(3, 0), NONE);
    due("far off", x.suffices(MAX, 1), 1);
    due("below 0", x.suffices(-1, 0), NONE);
    due("another rule", x.suffices(9, 2), NONE);
    SpanColours wide = of("abcdefghijklmnopqrstuvwxabcdefghijklmnopqrstuvwx");
    due("rule 0, all 24", wide.suffices(24, 0), 24);
    due("rule 0, all 24", wide.suffices(47, 0), 24);
    due("rule 1, all 24", wide.suffices(24, 1), 24);
    due("rule 1, one fewer", wide.suffices(25, 1), 23);
  }

  private static void allSpans() {
    SpanColours x = of("abac");
    promise = 50;
    due("just", x.just(1), 4);
    due("just", x.just(2), 4);
    due("just", x.just(3), 2);
    due("just", x.just(4), 0);
    due("none", x.just(0), 0);
    due("below 0", x.just(-1), 0);
    due("below 0", x.just(MIN), 0);
    due("far off", x.just(MAX), 0);
    promise = 51;
    due("all", x.all(), 18);
    SpanColours full = new SpanColours();
    full.draw(0, 160, 1);
    due("a full row of one colour", full.all(), 160 * 161 / 2);
    promise = 52;
    due("sets", x.sets(1), 3);
    due("sets", x.sets(2), 2);
    due("sets", x.sets(3), 2);
    due("sets", x.sets(4), 1);
    due("none so long", x.sets(5), 0);
    due("n below 1", x.sets(0), 0);
    due("n below 1", x.sets(-1), 0);
    due("far off", x.sets(MAX), 0);
  }

  private static void patterns() {
    SpanColours x = of("abacdcdd");
    promise = 53;
    due("how many", x.match(0, 2, NONE), 3);
    due("the first", x.match(0, 2, 0), 0);
    due("the second", x.match(0, 2, 1), 3);
    due("the third", x.match(4, 6, 2), 4);
    due("not so many", x.match(0, 2, 3), NONE);
    due("below NONE", x.match(0, 2, -2), NONE);
    due("itself alone", x.match(0, 7, NONE), 1);
    due("no span", x.match(2, 0, NONE), NONE);
    due("r not there", x.match(0, 8, NONE), NONE);
    promise = 54;
    due("l", x.twin(0), 0);
    due("how many places", x.twin(1), 3);
    due("another what", x.twin(2), NONE);
    due("another what", x.twin(-1), NONE);
    due("one place has none", of("a").twin(0), NONE);
    due("two places", of("ab").twin(1), 1);
    due("with places in common", of("aaaa").twin(1), 3);
    due("not at the first", of("aabcd").twin(0), 1);
    due("not at the first", of("aabcd").twin(1), 3);
    due("no places", new SpanColours().twin(1), NONE);
  }

  private static void partings() {
    SpanColours x = of("abacdc");
    promise = 55;
    due("fewest", x.parts(2, NONE), 2);
    due("the first", x.parts(2, 0), 2);
    due("the second", x.parts(2, 1), 5);
    due("no third", x.parts(2, 2), NONE);
    due("one each", x.parts(1, NONE), 6);
    due("all in one", x.parts(4, 0), 5);
    due("far off", x.parts(MAX, NONE), 1);
    due("k below 1", x.parts(0, NONE), NONE);
    due("below NONE", x.parts(1, -2), NONE);
    due("without places", new SpanColours().parts(3, NONE), 0);
    due("without places", new SpanColours().parts(3, 0), NONE);
    promise = 56;
    due("one part", x.best(1, NONE), 4);
    due("its end", x.best(1, 0), 5);
    due("two parts", x.best(2, NONE), 5);
    due("the first part is shortest", x.best(2, 0), 0);
    due("the second", x.best(2, 1), 5);
    due("three parts", x.best(3, NONE), 6);
    due("the first part of three", x.best(3, 0), 0);
    due("the second part of three", x.best(3, 1), 3);
    due("the third part of three", x.best(3, 2), 5);
    due("no such part", x.best(2, 2), NONE);
    due("below NONE", x.best(2, -2), NONE);
    due("more parts than places", x.best(7, NONE), NONE);
    due("m below 1", x.best(0, NONE), NONE);
    due("nine parts", of("aaaaaaaaaa").best(9, NONE), NONE);
    due("eight parts", of("aaaaaaaaaa").best(8, NONE), 8);
    due("eight parts", of("aaaaaaaaaa").best(8, 6), 6);
    due("without places", new SpanColours().best(1, NONE), NONE);
  }

  private static void asItWas() {
    SpanColours x = of("aba");
    x.turn(0, 1);
    x.cut(0, 0);
    promise = 57;
    due("places then", x.was(3, NONE, 0), 3);
    due("places then", x.was(0, NONE, 0), 0);
    due("places now", x.was(5, NONE, 0), 2);
    due("colour", x.was(3, 1, 0), 1);
    due("name", x.was(4, 0, 1), 1);
    due("bond", x.was(3, 2, 2), 0);
    due("no bond", x.was(3, 1, 2), NONE);
    due("no such place", x.was(3, 3, 0), NONE);
    due("no such place", x.was(3, -2, 0), NONE);
    due("another what", x.was(3, 0, 3), NONE);
    due("not yet", x.was(6, NONE, 0), NONE);
    due("below 0", x.was(-1, NONE, 0), NONE);
    promise = 58;
    due("counted", x.counted(3, 0, 2), 2);
    due("counted", x.counted(4, 1, 2), 1);
    due("no such span", x.counted(5, 0, 2), NONE);
    due("no such span", x.counted(3, 2, 1), NONE);
    due("not yet", x.counted(6, 0, 0), NONE);
    promise = 59;
    due("touched", x.touched(5), 0);
    due("touched", x.touched(1), 0);
    due("0 is no edit", x.touched(0), NONE);
    due("not yet", x.touched(6), NONE);
    due("below 0", x.touched(-1), NONE);
    SpanColours y = of("aa");
    y.turn(0, 1);
    due("touched", y.touched(3), 2);
  }

  private static void whatIsKnown() {
    SpanColours x = of("ab");
    for (int i = 3; i <= 39; i++) {
      x.put(1, 1 + i % 3);
    }
    promise = 57;
    due("0 is known still", x.was(0, NONE, 0), 0);
    promise = 63;
    due("ask of the first", x.askOf(1, 0, 0), 0);
    promise = 60;
    due("since it came", x.since(0), 1);
    x.put(0, 0);
    promise = 57;
    due("0 is known no more", x.was(0, NONE, 0), NONE);
    due("1 is", x.was(1, NONE, 0), 1);
    promise = 59;
    due("touched by 1", x.touched(1), 0);
    promise = 64;
    due("of 1, which is known", x.solve(), 1);
    x.put(0, 0);
    due("of 1, which is known no more", x.solve(), 0);
    promise = 65;
    due("no answer", x.asked(0, 0), NONE);
    due("its edit", x.asked(0, 4), 1);
    promise = 57;
    due("1 is known no more", x.was(1, 0, 0), NONE);
    due("2 is", x.was(2, 1, 1), 1);
    promise = 58;
    due("counted of 1", x.counted(1, 0, 0), NONE);
    promise = 59;
    due("touched by 1", x.touched(1), NONE);
    promise = 60;
    due("of those known", x.since(0), 2);
    promise = 61;
    due("changed since 1", x.changed(1, 0), NONE);
    promise = 63;
    due("ask of 1", x.askOf(1, 0, 0), NONE);
    due("ask of 2", x.askOf(2, 0, 1), 1);
  }

  private static void since() {
    promise = 60;
    SpanColours x = of("aba");
    due("since it came", x.since(2), 3);
    x.insert(3, 5);
    due("still", x.since(2), 3);
    x.put(0, 1);
    due("another bond", x.since(2), 5);
    x.put(0, 0);
    due("back again is a change", x.since(2), 6);
    due("no bond all along", x.since(0), 1);
    due("none yet", x.since(4), NONE);
    due("below 0", x.since(-1), NONE);
    x.cut(2, 2);
    due("gone", x.since(2), NONE);
  }

  private static void changed() {
    promise = 61;
    SpanColours x = of("abab");
    x.cut(1, 1);
    x.put(1, 2);
    x.insert(0, 1);
    due("there then and now", x.changed(4, 0), 3);
    due("at another place", x.changed(4, 1), 1);
    due("of another colour", x.changed(4, 2), 1);
    due("of another bond", x.changed(4, 3), 2);
    due("nothing since now", x.changed(7, 1), 0);
    due("all since now", x.changed(7, 0), 4);
    due("none at first", x.changed(0, 0), 0);
    due("another what", x.changed(4, 4), NONE);
    due("another what", x.changed(4, -1), NONE);
    due("not yet", x.changed(8, 0), NONE);
    due("below 0", x.changed(-1, 0), NONE);
  }

  private static void asked() {
    SpanColours x = of("abcd");
    x.weigh(3, 40);
    promise = 62;
    due("ask", x.ask(3, 1), 0);
    due("one name twice", x.ask(2, 2), 1);
    due("not there", x.ask(0, 4), NONE);
    due("not there", x.ask(-1, 0), NONE);
    promise = 65;
    due("not solved yet", x.asked(0, 0), NONE);
    due("not solved yet", x.asked(0, 1), NONE);
    due("name", x.asked(0, 2), 3);
    due("other", x.asked(0, 3), 1);
    due("of no edit", x.asked(0, 4), NONE);
    promise = 63;
    due("ask of", x.askOf(4, 0, 3), 2);
    due("was not there", x.askOf(2, 0, 3), NONE);
    due("not yet", x.askOf(5, 0, 1), NONE);
    due("below 0", x.askOf(-1, 0, 1), NONE);
    promise = 64;
    due("solve", x.solve(), 3);
    promise = 65;
    due("colours", x.asked(0, 0), 3);
    due("weights", x.asked(0, 1), 42);
    due("colours", x.asked(2, 0), 4);
    x.shift(0, 3, 1);
    x.cut(1, 1);
    x.weigh(3, 5);
    due("answers stay", x.asked(0, 1), 42);
    promise = 64;
    due("a name is gone", x.solve(), 2);
    promise = 65;
    due("the ends went with their places", x.asked(0, 0), 2);
    due("weights as they are now", x.asked(0, 1), 6);
    due("of a name that is gone", x.asked(1, 0), NONE);
    due("of a name that is gone", x.asked(1, 1), NONE);
    due("as it was behind the edit", x.asked(2, 0), 4);
    due("by weights now", x.asked(2, 1), 8);
    due("its edit", x.asked(2, 4), 4);
    due("none such", x.asked(3, 0), NONE);
    due("none such", x.asked(-1, 0), NONE);
    due("another what", x.asked(0, 5), NONE);
    due("another what", x.asked(0, -1), NONE);
    promise = 66;
    due("forget", x.forget(), 3);
    due("nothing is asked", x.about(5), 0);
    due("nothing is asked", x.asked(0, 2), NONE);
    due("again", x.forget(), 0);
    due("solve none", x.solve(), 0);
    due("from 0 on again", x.ask(0, 1), 0);
    due("not solved yet", x.asked(0, 0), NONE);
  }

  private static void mostAsked() {
    SpanColours x = of("ab");
    promise = 62;
    for (int i = 0; i < 30; i++) {
      due("ask", i % 2 == 0 ? x.ask(0, 1) : x.askOf(2, 0, 1), i);
    }
    due("thirty-one", x.ask(0, 1), NONE);
    promise = 63;
    due("thirty-one", x.askOf(2, 0, 1), NONE);
    promise = 64;
    due("solve", x.solve(), 30);
    promise = 66;
    due("forget", x.forget(), 30);
  }

  public static void main(String[] args) {
    newObject();
    put();
    insert();
    lastNames();
    cut();
    paint();
    turn();
    shift();
    sort();
    swap();
    copy();
    merge();
    exchange();
    draw();
    weigh();
    at();
    place();
    colour();
    nth();
    about();
    noSpan();
    coloursOfSpans();
    report();
    kth();
    moreOfSpans();
    partsOfSpans();
    apart();
    howFar();
    window();
    longSpans();
    shelves();
    allSpans();
    patterns();
    partings();
    asItWas();
    whatIsKnown();
    since();
    changed();
    asked();
    mostAsked();
    System.out.println(checks + " checks by hand, " + wrong + " not as due");
    if (wrong != 0) {
      System.exit(1);
    }
  }
}
