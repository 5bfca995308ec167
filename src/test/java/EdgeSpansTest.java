/** The boundary cases of what is told one by one and of spans: promises 15 to 38. */
public final class EdgeSpansTest extends Bench {
  private static final int[] NO_COLOURS = {-1, 24, 25, MIN, MAX};

  private interface OnSpan {
    long on(SpanColours x, int l, int r);
  }

  /** NONE where there is no span, and an answer where there just is one. */
  private static void needsSpan(OnSpan call) {
    says("a SPAN; NONE if it can't be: 0 <= l <= r, and r is there");
    for (int[] s : noSpans(0)) {
      refuses(empty(), x -> call.on(x, s[0], s[1]));
    }
    refuses(empty(), x -> call.on(x, 0, 0));
    for (int[] s : noSpans(1)) {
      refuses(of("a"), x -> call.on(x, s[0], s[1]));
    }
    for (int[] s : noSpans(4)) {
      refuses(of("abab"), x -> call.on(x, s[0], s[1]));
    }
    for (int[] s : noSpans(160)) {
      refuses(plain(), x -> call.on(x, s[0], s[1]));
    }
  }

  /** The whole row of all 160 places with colour 0, with colour 1 at its first and last place. */
  private static Maker ends() {
    return after(plain(), x -> x.put(0, 1), x -> x.put(159, 1));
  }

  private static void at() {
    promise(15);
    says("of a PLACE: NONE if there is none such");
    for (int what = -1; what <= 4; what++) {
      int w = what;
      refuses(empty(), x -> x.at(0, w));
      for (int place : new int[] {-1, 3, 4, MIN, MAX}) {
        refuses(of("aaa"), x -> x.at(place, w));
      }
      refuses(plain(), x -> x.at(160, w));
      refuses(plain(), x -> x.at(-1, w));
    }
    says("or for another what");
    for (int what : new int[] {-1, 4, 5, MIN, MAX}) {
      refuses(of("aaa"), x -> x.at(1, what));
      refuses(plain(), x -> x.at(159, what));
    }
    says("what 2: its BOND, 3: the next one behind it (NONE)");
    int[][] due = {{0, 0, 0}, {0, 1, 2}, {NONE, 0, 1}, {1, 2, NONE}};
    for (int what = 0; what < 4; what++) {
      for (int place = 0; place < 3; place++) {
        int w = what;
        int p = place;
        tells(of("aaa"), due[w][p], x -> x.at(p, w));
      }
    }
    refuses(of("ab"), x -> x.at(1, 2));
    refuses(of("ab"), x -> x.at(0, 3));
    says("with all 160");
    tells(cycle(24), 15, x -> x.at(159, 0));
    tells(cycle(24), 159, x -> x.at(159, 1));
    tells(cycle(24), 135, x -> x.at(159, 2));
    refuses(cycle(24), x -> x.at(159, 3));
    refuses(cycle(24), x -> x.at(23, 2));
    tells(cycle(24), 0, x -> x.at(24, 2));
    tells(cycle(24), 159, x -> x.at(135, 3));
    refuses(cycle(24), x -> x.at(136, 3));
    tells(ends(), 159, x -> x.at(0, 3));
    tells(ends(), 0, x -> x.at(159, 2));
  }

  private static void place() {
    promise(16);
    says("NONE if it is gone, or was none yet");
    for (int name : new int[] {-1, 0, 1, 9999, 10000, MIN, MAX}) {
      refuses(empty(), x -> x.place(name));
    }
    tells(of("abc"), 0, x -> x.place(0));
    tells(of("abc"), 2, x -> x.place(2));
    refuses(of("abc"), x -> x.place(3));
    refuses(of("abc"), x -> x.place(-1));
    refuses(after(of("abc"), x -> x.cut(0, 0)), x -> x.place(0));
    tells(after(of("abc"), x -> x.cut(0, 0)), 0, x -> x.place(1));
    refuses(after(of("abc"), x -> x.cut(2, 2)), x -> x.place(2));
    says("with all 160");
    tells(plain(), 159, x -> x.place(159));
    refuses(plain(), x -> x.place(160));
    says("the last NAME");
    tells(named(10000), 79, x -> x.place(9999));
    refuses(named(10000), x -> x.place(10000));
    tells(named(10000), 0, x -> x.place(9920));
    refuses(named(10000), x -> x.place(9919));
    refuses(named(9999), x -> x.place(9999));
  }

  private static void colour() {
    promise(17);
    says("NONE if there is none such");
    for (int what = -1; what <= 5; what++) {
      int w = what;
      for (int colour : NO_COLOURS) {
        refuses(of("axa"), x -> x.colour(colour, w));
        refuses(empty(), x -> x.colour(colour, w));
      }
    }
    says("or for another what");
    for (int what : new int[] {-1, 5, 6, MIN, MAX}) {
      refuses(of("axa"), x -> x.colour(0, what));
    }
    says("without PLACES");
    long[] none = {0, 1, NONE, NONE, NONE};
    for (int what = 0; what < 5; what++) {
      int w = what;
      tells(empty(), none[w], x -> x.colour(0, w));
      tells(empty(), none[w], x -> x.colour(23, w));
      tells(of("axa"), none[w], x -> x.colour(1, w));
    }
    says("what 2, 3: the first, the last place (NONE)");
    tells(of("axa"), 0, x -> x.colour(0, 2));
    tells(of("axa"), 2, x -> x.colour(0, 3));
    tells(of("axa"), 1, x -> x.colour(23, 2));
    tells(of("axa"), 1, x -> x.colour(23, 3));
    says("what 4: NONE if there are not two");
    refuses(of("axa"), x -> x.colour(23, 4));
    tells(of("axa"), 1, x -> x.colour(0, 4));
    tells(of("aax"), 0, x -> x.colour(0, 4));
    tells(of("abaabba"), 2, x -> x.colour(0, 4));
    says("with all 160");
    tells(plain(), 160, x -> x.colour(0, 0));
    tells(plain(), 0, x -> x.colour(0, 2));
    tells(plain(), 159, x -> x.colour(0, 3));
    tells(plain(), 0, x -> x.colour(0, 4));
    tells(cycle(24), 7, x -> x.colour(15, 0));
    tells(cycle(24), 6, x -> x.colour(16, 0));
    tells(cycle(24), 143, x -> x.colour(23, 3));
    tells(cycle(24), 23, x -> x.colour(23, 4));
    tells(ends(), 158, x -> x.colour(1, 4));
    says("its WEIGHT: 0 .. 999");
    tells(weighing(plain(), 999), 999, x -> x.colour(23, 1));
    tells(weighing(plain(), 0), 0, x -> x.colour(0, 1));
  }

  private static void nth() {
    promise(18);
    says("the k-th (0 ..); NONE if there is none such");
    for (int k : new int[] {-1, 2, 3, MIN, MAX}) {
      refuses(of("aba"), x -> x.nth(0, k));
    }
    tells(of("aba"), 0, x -> x.nth(0, 0));
    tells(of("aba"), 2, x -> x.nth(0, 1));
    refuses(of("aba"), x -> x.nth(1, 1));
    refuses(of("aba"), x -> x.nth(2, 0));
    refuses(empty(), x -> x.nth(0, 0));
    refuses(empty(), x -> x.nth(0, -1));
    for (int colour : NO_COLOURS) {
      refuses(of("aba"), x -> x.nth(colour, 0));
      refuses(empty(), x -> x.nth(colour, 0));
      refuses(plain(), x -> x.nth(colour, 0));
    }
    says("with all 160");
    tells(plain(), 159, x -> x.nth(0, 159));
    refuses(plain(), x -> x.nth(0, 160));
    tells(cycle(24), 143, x -> x.nth(23, 5));
    refuses(cycle(24), x -> x.nth(23, 6));
    tells(cycle(24), 159, x -> x.nth(15, 6));
  }

  private static void about() {
    promise(19);
    says("NONE for another what");
    for (int what : new int[] {-1, 6, 7, MIN, MAX}) {
      refuses(empty(), x -> x.about(what));
      refuses(of("aba"), x -> x.about(what));
      refuses(plain(), x -> x.about(what));
    }
    says("without PLACES, at first");
    for (int what = 0; what <= 5; what++) {
      int w = what;
      tells(empty(), 0, x -> x.about(w));
    }
    says("without PLACES, all gone");
    int[] gone = {0, 0, 3, 4, 0, 0};
    int[] turned = {3, 2, 3, 4, 2, 0};
    for (int what = 0; what <= 5; what++) {
      int w = what;
      tells(after(of("aba"), x -> x.cut(0, 2)), gone[w], x -> x.about(w));
      tells(after(of("aba"), x -> x.turn(0, 2)), turned[w], x -> x.about(w));
    }
    says("with all 160");
    tells(plain(), 160, x -> x.about(0));
    tells(plain(), 1, x -> x.about(1));
    tells(after(plain(), x -> x.put(0, 1)), 2, x -> x.about(1));
    tells(after(plain(), x -> x.put(159, 1)), 2, x -> x.about(1));
    tells(cycle(24), 24, x -> x.about(1));
    tells(plain(), 160, x -> x.about(2));
    tells(plain(), 1, x -> x.about(3));
    tells(after(plain(), x -> x.turn(0, 159), x -> x.turn(0, 159)), 320, x -> x.about(4));
    says("NAMES that were given: gone ones, too, and all of them");
    tells(named(9999), 9999, x -> x.about(2));
    tells(named(10000), 10000, x -> x.about(2));
    says("BONDS TOUCHED by all together, by EDITS that are not KNOWN any more, too");
    tells(turnedOften(45), 90, x -> x.about(4));
    tells(turnedOften(45), 47, x -> x.about(3));
    says("ASKED: at most 30");
    tells(askedOften(29), 29, x -> x.about(5));
    tells(askedOften(30), 30, x -> x.about(5));
    tells(askedOften(31), 30, x -> x.about(5));
    tells(after(askedOften(30), x -> x.forget()), 0, x -> x.about(5));
  }

  private static Maker turnedOften(int times) {
    return () -> {
      SpanColours x = of("aa").make();
      for (int i = 0; i < times; i++) {
        x.turn(0, 1);
      }
      return x;
    };
  }

  private static Maker askedOften(int times) {
    return () -> {
      SpanColours x = of("ab").make();
      for (int i = 0; i < times; i++) {
        x.ask(0, 1);
      }
      return x;
    };
  }

  private static void countWeightSet() {
    promise(20);
    needsSpan((x, l, r) -> x.count(l, r));
    says("how many COLOURS: of one PLACE, with all 160");
    tells(of("abab"), 1, x -> x.count(0, 0));
    tells(of("abab"), 1, x -> x.count(3, 3));
    tells(of("abab"), 2, x -> x.count(0, 3));
    tells(plain(), 1, x -> x.count(0, 159));
    tells(cycle(24), 24, x -> x.count(0, 159));
    tells(cycle(24), 24, x -> x.count(136, 159));
    tells(cycle(24), 23, x -> x.count(137, 159));
    tells(cycle(24), 1, x -> x.count(159, 159));
    tells(cycle(24), 1, x -> x.count(0, 0));

    promise(21);
    needsSpan((x, l, r) -> x.weight(l, r));
    says("WEIGHTS of its COLOURS together: each once, 0 .. 999 each");
    tells(weighing(cycle(24), 999), 23976, x -> x.weight(0, 159));
    tells(weighing(cycle(24), 999), 999 * 23, x -> x.weight(137, 159));
    tells(weighing(cycle(24), 0), 0, x -> x.weight(0, 159));
    tells(weighing(plain(), 999), 999, x -> x.weight(0, 159));
    tells(after(of("aab"), x -> x.weigh(1, 0)), 1, x -> x.weight(0, 2));
    tells(after(of("aab"), x -> x.weigh(1, 0)), 0, x -> x.weight(2, 2));

    promise(22);
    needsSpan((x, l, r) -> x.set(l, r));
    says("its COLOURS as bits: 0 .. 23");
    tells(of("ax"), 1, x -> x.set(0, 0));
    tells(of("ax"), 1 << 23, x -> x.set(1, 1));
    tells(of("ax"), 1 << 23 | 1, x -> x.set(0, 1));
    tells(cycle(24), ALL_BITS, x -> x.set(0, 159));
    tells(cycle(24), ALL_BITS & ~(1 << 16), x -> x.set(137, 159));
    tells(plain(), 1, x -> x.set(0, 159));
  }

  private static void timesOftenTally() {
    promise(23);
    needsSpan((x, l, r) -> x.times(l, r, 0));
    says("NONE for no such one, too");
    for (int colour : NO_COLOURS) {
      refuses(of("axa"), x -> x.times(0, 2, colour));
      refuses(of("axa"), x -> x.times(2, 0, colour));
      refuses(empty(), x -> x.times(0, 0, colour));
      refuses(plain(), x -> x.times(0, 159, colour));
    }
    tells(of("axa"), 2, x -> x.times(0, 2, 0));
    tells(of("axa"), 1, x -> x.times(0, 2, 23));
    tells(of("axa"), 0, x -> x.times(0, 2, 1));
    tells(of("axa"), 0, x -> x.times(0, 0, 23));
    says("with all 160");
    tells(plain(), 160, x -> x.times(0, 159, 0));
    tells(plain(), 159, x -> x.times(1, 159, 0));
    tells(cycle(24), 7, x -> x.times(0, 159, 15));
    tells(cycle(24), 6, x -> x.times(0, 158, 15));
    tells(cycle(24), 6, x -> x.times(0, 159, 23));

    promise(24);
    needsSpan((x, l, r) -> x.often(l, r, 1));
    says("at least t (1 ..); NONE for t below 1, too");
    for (int t : new int[] {0, -1, MIN}) {
      refuses(of("aab"), x -> x.often(0, 2, t));
      refuses(plain(), x -> x.often(0, 159, t));
    }
    tells(of("aab"), 2, x -> x.often(0, 2, 1));
    tells(of("aab"), 1, x -> x.often(0, 2, 2));
    tells(of("aab"), 0, x -> x.often(0, 2, 3));
    tells(of("aab"), 0, x -> x.often(0, 2, MAX));
    says("with all 160");
    tells(plain(), 1, x -> x.often(0, 159, 160));
    tells(plain(), 0, x -> x.often(0, 159, 161));
    tells(cycle(24), 24, x -> x.often(0, 159, 6));
    tells(cycle(24), 16, x -> x.often(0, 159, 7));
    tells(cycle(24), 0, x -> x.often(0, 159, 8));

    promise(29);
    needsSpan((x, l, r) -> x.tally(l, r, 1));
    says("just t (1 ..); NONE for t below 1, too");
    for (int t : new int[] {0, -1, MIN}) {
      refuses(of("aab"), x -> x.tally(0, 2, t));
      refuses(plain(), x -> x.tally(0, 159, t));
    }
    tells(of("aab"), 1, x -> x.tally(0, 2, 1));
    tells(of("aab"), 1, x -> x.tally(0, 2, 2));
    tells(of("aab"), 0, x -> x.tally(0, 2, 3));
    tells(of("aab"), 0, x -> x.tally(0, 2, MAX));
    says("with all 160");
    tells(plain(), 0, x -> x.tally(0, 159, 159));
    tells(plain(), 1, x -> x.tally(0, 159, 160));
    tells(plain(), 0, x -> x.tally(0, 159, 161));
    tells(cycle(24), 0, x -> x.tally(0, 159, 5));
    tells(cycle(24), 8, x -> x.tally(0, 159, 6));
    tells(cycle(24), 16, x -> x.tally(0, 159, 7));
    tells(cycle(24), 0, x -> x.tally(0, 159, 8));
  }

  private static void report() {
    promise(25);
    for (int what = 0; what <= 2; what++) {
      int w = what;
      needsSpan((x, l, r) -> x.report(l, r, 0, w));
    }
    says("a BOND LEAVES it, if it is NONE or of a PLACE ahead of l");
    tells(of("aaa"), 1, x -> x.report(1, 2, 0, 0));
    refuses(of("aaa"), x -> x.report(1, 2, 1, 0));
    tells(of("aaa"), 2, x -> x.report(2, 2, 0, 0));
    tells(of("aaa"), 0, x -> x.report(0, 2, 0, 0));
    refuses(of("aaa"), x -> x.report(0, 2, 1, 0));
    tells(of("abca"), 3, x -> x.report(1, 3, 2, 0));
    refuses(of("abca"), x -> x.report(0, 3, 3, 0));
    says("those without BOND first, by place; then by the place of their BONDS");
    int[] places = {4, 6, 3, 2};
    int[] colours = {2, 3, 0, 1};
    int[] bonds = {NONE, NONE, 0, 1};
    for (int k = 0; k < 4; k++) {
      int i = k;
      tells(of("abbacad"), places[i], x -> x.report(2, 6, i, 0));
      tells(of("abbacad"), colours[i], x -> x.report(2, 6, i, 1));
      tells(of("abbacad"), bonds[i], x -> x.report(2, 6, i, 2));
    }
    says("the place of a BOND, not its NAME");
    Maker turned = after(of("abcab"), x -> x.turn(0, 1));
    tells(turned, 4, x -> x.report(3, 4, 0, 0));
    tells(turned, 1, x -> x.report(3, 4, 0, 2));
    tells(turned, 3, x -> x.report(3, 4, 1, 0));
    tells(turned, 0, x -> x.report(3, 4, 1, 2));
    says("the k-th (0 ..); NONE if there are not so many");
    for (int k : new int[] {-1, 4, 5, MIN, MAX}) {
      for (int what = 0; what <= 2; what++) {
        int w = what;
        refuses(of("abbacad"), x -> x.report(2, 6, k, w));
      }
    }
    says("or for another what");
    for (int what : new int[] {-1, 3, 4, MIN, MAX}) {
      refuses(of("abbacad"), x -> x.report(2, 6, 0, what));
      refuses(of("abbacad"), x -> x.report(2, 6, 3, what));
    }
    says("with all 160");
    tells(cycle(24), 0, x -> x.report(0, 159, 0, 0));
    tells(cycle(24), 23, x -> x.report(0, 159, 23, 0));
    refuses(cycle(24), x -> x.report(0, 159, 24, 0));
    tells(cycle(24), 136, x -> x.report(136, 159, 0, 0));
    tells(cycle(24), 159, x -> x.report(136, 159, 23, 0));
    tells(cycle(24), 135, x -> x.report(136, 159, 23, 2));
    refuses(cycle(24), x -> x.report(136, 159, 24, 0));
    tells(plain(), 159, x -> x.report(159, 159, 0, 0));
    tells(plain(), 158, x -> x.report(159, 159, 0, 2));
    tells(ends(), 1, x -> x.report(1, 159, 0, 0));
    tells(ends(), 159, x -> x.report(1, 159, 1, 0));
    tells(ends(), 0, x -> x.report(1, 159, 1, 2));
  }

  private static void kth() {
    promise(26);
    for (int way = 0; way <= 4; way++) {
      int w = way;
      needsSpan((x, l, r) -> x.kth(l, r, 0, w));
      says("the k-th (0 ..); NONE if there are not so many");
      for (int k : new int[] {-1, 3, 4, MIN, MAX}) {
        refuses(of("cabcab"), x -> x.kth(0, 5, k, w));
      }
      refuses(of("cabcab"), x -> x.kth(2, 2, 1, w));
      tells(of("cabcab"), 1, x -> x.kth(2, 2, 0, w));
      refuses(cycle(24), x -> x.kth(0, 159, 24, w));
      tells(plain(), 0, x -> x.kth(0, 159, 0, w));
      refuses(plain(), x -> x.kth(0, 159, 1, w));
    }
    says("or for another way");
    for (int way : new int[] {-1, 5, 6, MIN, MAX}) {
      refuses(of("cabcab"), x -> x.kth(0, 5, 0, way));
      refuses(cycle(24), x -> x.kth(0, 159, 23, way));
    }
    says("as it first comes from l on (0), from r back (1), by numbers (2)");
    int[][] due = {{2, 0, 1}, {1, 0, 2}, {0, 1, 2}};
    for (int way = 0; way <= 2; way++) {
      for (int k = 0; k < 3; k++) {
        int w = way;
        int i = k;
        tells(of("ccacbab"), due[w][i], x -> x.kth(0, 6, i, w));
      }
    }
    tells(cycle(24), 23, x -> x.kth(0, 159, 23, 0));
    tells(cycle(24), 15, x -> x.kth(0, 159, 0, 1));
    tells(cycle(24), 16, x -> x.kth(0, 159, 23, 1));
    tells(cycle(24), 23, x -> x.kth(0, 159, 23, 2));
    says("the heaviest first, of like ones by numbers (3): 0 .. 999");
    Maker heavy = after(of("abcd"), x -> x.weigh(0, 0), x -> x.weigh(3, 999));
    int[] byWeight = {3, 1, 2, 0};
    for (int k = 0; k < 4; k++) {
      int i = k;
      tells(heavy, byWeight[i], x -> x.kth(0, 3, i, 3));
    }
    tells(weighing(cycle(24), 0), 23, x -> x.kth(0, 159, 23, 3));
    tells(weighing(cycle(24), 999), 0, x -> x.kth(0, 159, 0, 3));
    tells(after(cycle(24), x -> x.weigh(23, 2)), 23, x -> x.kth(0, 159, 0, 3));
    tells(after(cycle(24), x -> x.weigh(0, 0)), 0, x -> x.kth(0, 159, 23, 3));
    says("the most often first, of like ones by numbers (4)");
    int[] byTimes = {3, 0, 2, 1};
    for (int k = 0; k < 4; k++) {
      int i = k;
      tells(of("dcbdacdabb"), byTimes[i], x -> x.kth(0, 7, i, 4));
    }
    tells(cycle(24), 15, x -> x.kth(0, 159, 15, 4));
    tells(cycle(24), 16, x -> x.kth(0, 159, 16, 4));
    tells(cycle(24), 23, x -> x.kth(0, 159, 23, 4));
    tells(cycle(24), 1, x -> x.kth(1, 159, 0, 4));
    tells(cycle(24), 0, x -> x.kth(1, 159, 15, 4));
  }

  private static void absentAndBoth() {
    promise(27);
    needsSpan((x, l, r) -> x.absent(l, r, 0));
    says("the k-th (0 ..) COLOUR that it has not; NONE if there are not so many");
    tells(of("bc"), 0, x -> x.absent(0, 1, 0));
    tells(of("bc"), 3, x -> x.absent(0, 1, 1));
    tells(of("bc"), 23, x -> x.absent(0, 1, 21));
    for (int k : new int[] {-1, 22, 23, 24, MIN, MAX}) {
      refuses(of("bc"), x -> x.absent(0, 1, k));
    }
    tells(of("x"), 22, x -> x.absent(0, 0, 22));
    refuses(of("x"), x -> x.absent(0, 0, 23));
    says("with all 160, and all COLOURS");
    refuses(cycle(24), x -> x.absent(0, 159, 0));
    refuses(cycle(24), x -> x.absent(0, 23, 0));
    tells(cycle(24), 23, x -> x.absent(0, 22, 0));
    refuses(cycle(24), x -> x.absent(0, 22, 1));
    tells(plain(), 1, x -> x.absent(0, 159, 0));
    tells(plain(), 23, x -> x.absent(0, 159, 22));

    promise(28);
    for (int how = 0; how <= 2; how++) {
      int h = how;
      needsSpan((x, l, r) -> x.both(l, r, 0, 0, h));
      needsSpan((x, l, r) -> x.both(0, 0, l, r, h));
      needsSpan((x, l, r) -> x.both(l, r, l, r, h));
    }
    says("NONE for another how");
    for (int how : new int[] {-1, 3, 4, MIN, MAX}) {
      refuses(of("abab"), x -> x.both(0, 1, 2, 3, how));
    }
    says("two SPANS: one and the same, one in the other, side by side");
    int[][] due = {{2, 0, 2}, {1, 1, 2}, {0, 1, 3}, {0, 2, 3}};
    int[][] spans = {{0, 1, 0, 1}, {0, 1, 1, 1}, {0, 0, 1, 2}, {1, 2, 0, 0}};
    for (int i = 0; i < spans.length; i++) {
      for (int how = 0; how <= 2; how++) {
        int[] s = spans[i];
        int h = how;
        tells(of("abc"), due[i][h], x -> x.both(s[0], s[1], s[2], s[3], h));
      }
    }
    says("with all 160");
    tells(cycle(24), 24, x -> x.both(0, 159, 0, 159, 0));
    tells(cycle(24), 0, x -> x.both(0, 159, 0, 159, 1));
    tells(cycle(24), 24, x -> x.both(0, 11, 12, 23, 2));
    tells(cycle(24), 0, x -> x.both(0, 11, 12, 23, 0));
    tells(cycle(24), 12, x -> x.both(0, 11, 12, 23, 1));
    tells(cycle(24), 1, x -> x.both(159, 159, 0, 158, 0));
  }

  private static void majorAndClose() {
    promise(30);
    needsSpan((x, l, r) -> x.major(l, r));
    says("more than half of its PLACES; NONE if there is none, too");
    tells(of("abab"), 0, x -> x.major(0, 0));
    refuses(of("abab"), x -> x.major(0, 1));
    tells(of("abab"), 0, x -> x.major(0, 2));
    tells(of("abab"), 1, x -> x.major(1, 3));
    refuses(of("abab"), x -> x.major(0, 3));
    refuses(of("aabc"), x -> x.major(0, 3));
    tells(of("aabca"), 0, x -> x.major(0, 4));
    tells(of("x"), 23, x -> x.major(0, 0));
    says("with all 160: 80 and 81 of them");
    refuses(cycle(2), x -> x.major(0, 159));
    tells(after(cycle(2), x -> x.put(1, 0)), 0, x -> x.major(0, 159));
    tells(after(cycle(2), x -> x.put(0, 1)), 1, x -> x.major(0, 159));
    tells(plain(), 0, x -> x.major(0, 159));
    refuses(cycle(24), x -> x.major(0, 159));

    promise(31);
    needsSpan((x, l, r) -> x.close(l, r, 0));
    needsSpan((x, l, r) -> x.close(l, r, 1));
    says("NONE if there is none");
    for (int what = 0; what <= 1; what++) {
      int w = what;
      refuses(of("aba"), x -> x.close(0, 0, w));
      refuses(of("aba"), x -> x.close(0, 1, w));
      refuses(of("aba"), x -> x.close(1, 2, w));
      refuses(cycle(24), x -> x.close(0, 23, w));
      refuses(cycle(24), x -> x.close(1, 24, w));
    }
    says("or for another what");
    for (int what : new int[] {-1, 2, 3, MIN, MAX}) {
      refuses(of("aba"), x -> x.close(0, 2, what));
    }
    says("nearest (0), the place of the first one (1; of several the first)");
    tells(of("aba"), 2, x -> x.close(0, 2, 0));
    tells(of("aba"), 0, x -> x.close(0, 2, 1));
    tells(of("abcabb"), 1, x -> x.close(0, 5, 0));
    tells(of("abcabb"), 4, x -> x.close(0, 5, 1));
    tells(of("abcabb"), 3, x -> x.close(0, 4, 0));
    tells(of("abcabb"), 0, x -> x.close(0, 4, 1));
    tells(of("abcabb"), 1, x -> x.close(1, 4, 1));
    says("with all 160");
    tells(cycle(24), 24, x -> x.close(0, 159, 0));
    tells(cycle(24), 0, x -> x.close(0, 159, 1));
    tells(cycle(24), 24, x -> x.close(135, 159, 0));
    tells(cycle(24), 135, x -> x.close(135, 159, 1));
    tells(plain(), 1, x -> x.close(158, 159, 0));
    tells(plain(), 158, x -> x.close(158, 159, 1));
  }

  private static void sidesAndCover() {
    promise(32);
    needsSpan((x, l, r) -> x.sides(l, r));
    says("unlike twos of unlike COLOURS (in whatever order)");
    tells(of("abab"), 0, x -> x.sides(0, 0));
    tells(of("abab"), 1, x -> x.sides(0, 1));
    tells(of("abab"), 1, x -> x.sides(0, 3));
    tells(of("aaa"), 0, x -> x.sides(0, 2));
    tells(of("abca"), 3, x -> x.sides(0, 3));
    tells(of("abcx"), 1, x -> x.sides(2, 3));
    says("side by side in it: not over its ends");
    tells(of("abcx"), 1, x -> x.sides(1, 2));
    says("with all 160");
    tells(plain(), 0, x -> x.sides(0, 159));
    tells(cycle(24), 24, x -> x.sides(0, 159));
    tells(cycle(24), 23, x -> x.sides(0, 23));
    tells(cycle(24), 24, x -> x.sides(0, 24));
    tells(cycle(24), 24, x -> x.sides(135, 159));
    tells(cycle(24), 23, x -> x.sides(136, 159));

    promise(33);
    needsSpan((x, l, r) -> x.cover(l, r));
    says("the least n so that any n PLACES have all its COLOURS");
    tells(of("abab"), 1, x -> x.cover(2, 2));
    tells(of("abab"), 2, x -> x.cover(0, 3));
    tells(of("aaab"), 1, x -> x.cover(0, 2));
    tells(of("aaab"), 4, x -> x.cover(0, 3));
    tells(of("baaa"), 4, x -> x.cover(0, 3));
    tells(of("abbb"), 4, x -> x.cover(0, 3));
    tells(of("bbba"), 4, x -> x.cover(0, 3));
    tells(of("xaaa"), 4, x -> x.cover(0, 3));
    tells(of("abba"), 3, x -> x.cover(0, 3));
    tells(of("abbba"), 4, x -> x.cover(0, 4));
    says("with all 160");
    tells(plain(), 1, x -> x.cover(0, 159));
    tells(cycle(24), 24, x -> x.cover(0, 159));
    tells(cycle(24), 24, x -> x.cover(136, 159));
    tells(after(plain(), x -> x.put(0, 1)), 160, x -> x.cover(0, 159));
    tells(after(plain(), x -> x.put(159, 23)), 160, x -> x.cover(0, 159));
    tells(ends(), 159, x -> x.cover(0, 159));
  }

  private static void leastAndFair() {
    promise(34);
    needsSpan((x, l, r) -> x.least(l, r, 1));
    says("m (1 ..) at the most; NONE for m below 1, too");
    for (int m : new int[] {0, -1, MIN}) {
      refuses(of("aabc"), x -> x.least(0, 3, m));
      refuses(plain(), x -> x.least(0, 159, m));
    }
    int[] due = {2, 1, 0, 0};
    for (int m = 1; m <= 4; m++) {
      int n = m;
      tells(of("aabc"), due[n - 1], x -> x.least(0, 3, n));
    }
    tells(of("aabc"), 0, x -> x.least(0, 3, MAX));
    tells(of("aabc"), 0, x -> x.least(3, 3, 1));
    says("with all 160");
    tells(plain(), 0, x -> x.least(0, 159, 1));
    tells(cycle(24), 153, x -> x.least(0, 159, 1));
    tells(cycle(24), 48, x -> x.least(0, 159, 16));
    tells(cycle(24), 42, x -> x.least(0, 159, 17));
    tells(cycle(24), 6, x -> x.least(0, 159, 23));
    tells(cycle(24), 0, x -> x.least(0, 159, 24));
    tells(cycle(24), 0, x -> x.least(0, 159, 25));
    tells(cycle(2), 80, x -> x.least(0, 159, 1));

    promise(35);
    needsSpan((x, l, r) -> x.fair(l, r, 9));
    says("m (1 ..); NONE for m below 1, too");
    for (int m : new int[] {0, -1, MIN}) {
      refuses(of("aabc"), x -> x.fair(0, 3, m));
      refuses(plain(), x -> x.fair(0, 159, m));
    }
    says("more than their number by m");
    tells(of("aabc"), 0, x -> x.fair(0, 3, 1));
    tells(of("aabc"), 0, x -> x.fair(0, 3, 2));
    tells(of("aabc"), bits("a"), x -> x.fair(0, 3, 3));
    tells(of("aabc"), bits("a"), x -> x.fair(0, 3, 4));
    tells(of("aabc"), bits("abc"), x -> x.fair(0, 3, 5));
    tells(of("aabc"), bits("abc"), x -> x.fair(0, 3, MAX));
    tells(of("x"), 0, x -> x.fair(0, 0, 1));
    tells(of("x"), 1 << 23, x -> x.fair(0, 0, 2));
    says("with all 160");
    tells(plain(), 0, x -> x.fair(0, 159, 1));
    tells(plain(), 1, x -> x.fair(0, 159, 2));
    tells(plain(), 1, x -> x.fair(0, 159, MAX));
    tells(cycle(2), 0, x -> x.fair(0, 159, 2));
    tells(cycle(2), 3, x -> x.fair(0, 159, 3));
    tells(cycle(24), 0, x -> x.fair(0, 159, 22));
    tells(cycle(24), 0xFFFF, x -> x.fair(0, 159, 23));
    tells(cycle(24), 0xFFFF, x -> x.fair(0, 159, 26));
    tells(cycle(24), ALL_BITS, x -> x.fair(0, 159, 27));
    tells(cycle(24), ALL_BITS, x -> x.fair(0, 159, MAX));
  }

  private static void alikeAndEven() {
    promise(36);
    needsSpan((x, l, r) -> x.alike(l, r));
    says("how many twos of its PLACES have one COLOUR");
    tells(of("aaab"), 0, x -> x.alike(0, 0));
    tells(of("aaab"), 1, x -> x.alike(0, 1));
    tells(of("aaab"), 3, x -> x.alike(0, 3));
    tells(of("aaab"), 0, x -> x.alike(2, 3));
    says("with all 160");
    tells(plain(), 160 * 159 / 2, x -> x.alike(0, 159));
    tells(cycle(24), 16 * 21 + 8 * 15, x -> x.alike(0, 159));
    tells(cycle(24), 0, x -> x.alike(0, 23));
    tells(cycle(24), 1, x -> x.alike(0, 24));

    promise(37);
    needsSpan((x, l, r) -> x.even(l, r));
    says("NONE if it has one PLACE, too");
    refuses(of("a"), x -> x.even(0, 0));
    refuses(of("abc"), x -> x.even(2, 2));
    refuses(plain(), x -> x.even(159, 159));
    refuses(plain(), x -> x.even(0, 0));
    says("the last place of the first one; of several the first such");
    tells(of("abc"), 0, x -> x.even(0, 1));
    tells(of("abc"), 1, x -> x.even(1, 2));
    tells(of("abc"), 0, x -> x.even(0, 2));
    tells(of("aaa"), 0, x -> x.even(0, 2));
    tells(of("abcaaa"), 1, x -> x.even(0, 4));
    tells(of("aaabc"), 0, x -> x.even(0, 2));
    tells(of("aaabc"), 2, x -> x.even(0, 4));
    says("least apart, if they are never the same");
    tells(of("abbbb"), 0, x -> x.even(0, 4));
    tells(of("aaaab"), 3, x -> x.even(0, 4));
    tells(of("abca"), 1, x -> x.even(0, 3));
    says("with all 160");
    tells(plain(), 0, x -> x.even(0, 159));
    tells(cycle(24), 23, x -> x.even(0, 159));
    tells(cycle(24), 11, x -> x.even(0, 23));
    tells(cycle(24), 10, x -> x.even(0, 22));
    tells(plain(), 158, x -> x.even(158, 159));
  }

  private static void apart() {
    promise(38);
    says("two unlike COLOURS; NONE if it can't be");
    for (int what = 0; what <= 1; what++) {
      int w = what;
      refuses(empty(), x -> x.apart(0, 1, w));
      refuses(of("aba"), x -> x.apart(0, 0, w));
      refuses(of("axa"), x -> x.apart(23, 23, w));
      for (int colour : NO_COLOURS) {
        refuses(of("aba"), x -> x.apart(colour, 0, w));
        refuses(of("aba"), x -> x.apart(0, colour, w));
        refuses(empty(), x -> x.apart(colour, 0, w));
      }
      says("NONE if there are none");
      refuses(of("aba"), x -> x.apart(0, 2, w));
      refuses(of("aba"), x -> x.apart(2, 0, w));
      refuses(of("aba"), x -> x.apart(2, 3, w));
      refuses(plain(), x -> x.apart(0, 1, w));
    }
    says("for another what");
    for (int what : new int[] {-1, 2, 3, MIN, MAX}) {
      refuses(of("aba"), x -> x.apart(0, 1, what));
    }
    says("the place of the first such one that is ahead of the other");
    tells(of("axa"), 1, x -> x.apart(0, 23, 0));
    tells(of("axa"), 0, x -> x.apart(0, 23, 1));
    tells(of("axa"), 0, x -> x.apart(23, 0, 1));
    tells(of("accabc"), 1, x -> x.apart(0, 1, 0));
    tells(of("accabc"), 3, x -> x.apart(0, 1, 1));
    tells(of("bccaacb"), 2, x -> x.apart(0, 1, 0));
    tells(of("bccaacb"), 4, x -> x.apart(0, 1, 1));
    tells(of("bcacb"), 2, x -> x.apart(0, 1, 0));
    tells(of("bcacb"), 0, x -> x.apart(0, 1, 1));
    tells(of("bccacb"), 3, x -> x.apart(1, 0, 1));
    says("with all 160");
    Maker far = after(plain(), x -> x.put(0, 1), x -> x.put(159, 2));
    tells(far, 159, x -> x.apart(1, 2, 0));
    tells(far, 159, x -> x.apart(2, 1, 0));
    tells(far, 0, x -> x.apart(1, 2, 1));
    tells(far, 0, x -> x.apart(2, 1, 1));
    tells(far, 1, x -> x.apart(0, 2, 0));
    tells(far, 158, x -> x.apart(0, 2, 1));
    tells(cycle(24), 1, x -> x.apart(0, 23, 0));
    tells(cycle(24), 23, x -> x.apart(0, 23, 1));
    tells(cycle(24), 12, x -> x.apart(0, 12, 0));
    tells(cycle(24), 0, x -> x.apart(12, 0, 1));
  }

  public static void main(String[] args) {
    at();
    place();
    colour();
    nth();
    about();
    countWeightSet();
    timesOftenTally();
    report();
    kth();
    absentAndBoth();
    majorAndClose();
    sidesAndCover();
    leastAndFair();
    alikeAndEven();
    apart();
    end(15, 38);
  }
}
