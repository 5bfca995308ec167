/** The boundary cases of how far, shelves, all spans and partings: promises 39 to 56. */
public final class EdgeFarTest extends Bench {
  /** All 160 places with colour 0, with 1 at the first place and 2 at the last one. */
  private static Maker ends() {
    return after(plain(), x -> x.put(0, 1), x -> x.put(159, 2));
  }

  private static void reach() {
    promise(39);
    says("NONE if there is none: no such PLACE");
    refuses(empty(), x -> x.reach(0, 1));
    refuses(empty(), x -> x.reach(-1, 1));
    for (int l : new int[] {-1, 4, 5, MIN, MAX}) {
      refuses(of("aabc"), x -> x.reach(l, 1));
    }
    refuses(plain(), x -> x.reach(160, 1));
    refuses(plain(), x -> x.reach(-1, 1));
    says("k COLOURS at least (k 1 ..)");
    for (int k : new int[] {0, -1, MIN}) {
      refuses(of("aabc"), x -> x.reach(0, k));
      refuses(plain(), x -> x.reach(159, k));
    }
    tells(of("aabc"), 0, x -> x.reach(0, 1));
    tells(of("aabc"), 2, x -> x.reach(0, 2));
    tells(of("aabc"), 3, x -> x.reach(0, 3));
    refuses(of("aabc"), x -> x.reach(0, 4));
    refuses(of("aabc"), x -> x.reach(0, MAX));
    tells(of("aabc"), 3, x -> x.reach(3, 1));
    refuses(of("aabc"), x -> x.reach(3, 2));
    says("with all 160");
    tells(cycle(24), 23, x -> x.reach(0, 24));
    refuses(cycle(24), x -> x.reach(0, 25));
    tells(cycle(24), 159, x -> x.reach(136, 24));
    refuses(cycle(24), x -> x.reach(137, 24));
    tells(cycle(24), 159, x -> x.reach(137, 23));
    tells(plain(), 159, x -> x.reach(159, 1));
    refuses(plain(), x -> x.reach(0, 2));
    tells(ends(), 159, x -> x.reach(0, 3));
    refuses(ends(), x -> x.reach(1, 3));
  }

  private static void reachBack() {
    promise(40);
    says("no such PLACE");
    refuses(empty(), x -> x.reachBack(0, 1));
    refuses(empty(), x -> x.reachBack(-1, 1));
    for (int r : new int[] {-1, 4, 5, MIN, MAX}) {
      refuses(of("cbaa"), x -> x.reachBack(r, 1));
    }
    refuses(plain(), x -> x.reachBack(160, 1));
    refuses(plain(), x -> x.reachBack(-1, 1));
    says("k COLOURS at least");
    for (int k : new int[] {0, -1, MIN}) {
      refuses(of("cbaa"), x -> x.reachBack(3, k));
      refuses(plain(), x -> x.reachBack(159, k));
    }
    tells(of("cbaa"), 3, x -> x.reachBack(3, 1));
    tells(of("cbaa"), 1, x -> x.reachBack(3, 2));
    tells(of("cbaa"), 0, x -> x.reachBack(3, 3));
    refuses(of("cbaa"), x -> x.reachBack(3, 4));
    refuses(of("cbaa"), x -> x.reachBack(3, MAX));
    tells(of("cbaa"), 0, x -> x.reachBack(0, 1));
    refuses(of("cbaa"), x -> x.reachBack(0, 2));
    says("with all 160");
    tells(cycle(24), 136, x -> x.reachBack(159, 24));
    refuses(cycle(24), x -> x.reachBack(159, 25));
    tells(cycle(24), 0, x -> x.reachBack(23, 24));
    refuses(cycle(24), x -> x.reachBack(22, 24));
    tells(plain(), 159, x -> x.reachBack(159, 1));
    refuses(plain(), x -> x.reachBack(159, 2));
    tells(ends(), 0, x -> x.reachBack(159, 3));
    refuses(ends(), x -> x.reachBack(158, 3));
  }

  private static void load() {
    promise(41);
    says("no such PLACE");
    refuses(empty(), x -> x.load(0, 1));
    for (int l : new int[] {-1, 4, 5, MIN, MAX}) {
      refuses(of("aabc"), x -> x.load(l, 1));
    }
    refuses(plain(), x -> x.load(160, 1));
    refuses(plain(), x -> x.load(-1, 1));
    says("so much together at least (weight 1 ..)");
    for (int weight : new int[] {0, -1, MIN}) {
      refuses(of("aabc"), x -> x.load(0, weight));
      refuses(weighing(plain(), 0), x -> x.load(0, weight));
    }
    Maker heavy = after(of("aabc"), x -> x.weigh(0, 0), x -> x.weigh(2, 999));
    tells(heavy, 2, x -> x.load(0, 1));
    tells(heavy, 3, x -> x.load(0, 2));
    tells(heavy, 3, x -> x.load(0, 1000));
    refuses(heavy, x -> x.load(0, 1001));
    refuses(heavy, x -> x.load(0, MAX));
    tells(heavy, 3, x -> x.load(3, 999));
    refuses(heavy, x -> x.load(3, 1000));
    says("with all 160: WEIGHTS 0 .. 999");
    tells(weighing(cycle(24), 999), 0, x -> x.load(0, 999));
    tells(weighing(cycle(24), 999), 1, x -> x.load(0, 1000));
    tells(weighing(cycle(24), 999), 23, x -> x.load(0, 23976));
    refuses(weighing(cycle(24), 999), x -> x.load(0, 23977));
    tells(weighing(cycle(24), 999), 159, x -> x.load(136, 23976));
    refuses(weighing(cycle(24), 999), x -> x.load(137, 23976));
    refuses(weighing(cycle(24), 0), x -> x.load(0, 1));
    refuses(plain(), x -> x.load(0, 2));
    tells(plain(), 159, x -> x.load(159, 1));
  }

  private static void window() {
    promise(42);
    says("a set (bits; one at least): NONE for a set with none such");
    for (int what = 0; what <= 2; what++) {
      int w = what;
      for (int set : new int[] {0, 1 << 24, MIN, MIN | 1 << 24}) {
        refuses(of("aba"), x -> x.window(set, w));
        refuses(empty(), x -> x.window(set, w));
        refuses(cycle(24), x -> x.window(set, w));
      }
    }
    says("NONE if none has (0 for what 2)");
    long[] none = {NONE, NONE, 0};
    for (int what = 0; what <= 2; what++) {
      int w = what;
      tells(empty(), none[w], x -> x.window(1, w));
      tells(of("aba"), none[w], x -> x.window(bits("c"), w));
      tells(of("aba"), none[w], x -> x.window(bits("abc"), w));
      tells(plain(), none[w], x -> x.window(bits("ax"), w));
      tells(after(cycle(24, 24), x -> x.cut(23, 23)), none[w], x -> x.window(ALL_BITS, w));
    }
    says("or another what");
    for (int what : new int[] {-1, 3, 4, MIN, MAX}) {
      refuses(of("aba"), x -> x.window(1, what));
      refuses(of("aba"), x -> x.window(bits("c"), what));
      refuses(of("aba"), x -> x.window(0, what));
      refuses(empty(), x -> x.window(1, what));
    }
    says("the shortest, of several the first");
    long[] one = {0, 0, 5};
    long[] both = {0, 1, 3};
    long[] last = {1, 1, 4};
    for (int what = 0; what <= 2; what++) {
      int w = what;
      tells(of("axa"), one[w], x -> x.window(1, w));
      tells(of("axa"), both[w], x -> x.window(bits("ax"), w));
      tells(of("axa"), last[w], x -> x.window(1 << 23, w));
    }
    tells(of("ccabccba"), 2, x -> x.window(bits("ab"), 0));
    tells(of("ccabccba"), 3, x -> x.window(bits("ab"), 1));
    tells(of("acbcccba"), 6, x -> x.window(bits("ab"), 0));
    tells(of("abbabca"), 3, x -> x.window(bits("abc"), 0));
    tells(of("abbabca"), 5, x -> x.window(bits("abc"), 1));
    says("with all 160, and all COLOURS");
    long[] all = {0, 23, 137 * 138 / 2};
    long[] whole = {0, 159, 1};
    long[] plain = {0, 0, 160 * 161 / 2};
    for (int what = 0; what <= 2; what++) {
      int w = what;
      tells(cycle(24), all[w], x -> x.window(ALL_BITS, w));
      tells(ends(), whole[w], x -> x.window(bits("bc"), w));
      tells(plain(), plain[w], x -> x.window(1, w));
    }
    says("bits that are no COLOUR are none of its COLOURS");
    tells(of("axa"), 1, x -> x.window(1 << 24 | 1 << 23, 0));
    tells(cycle(24), 23, x -> x.window(-1, 1));
  }

  private static void longest() {
    promise(43);
    says("NONE without PLACES");
    for (int what = 0; what <= 1; what++) {
      int w = what;
      refuses(empty(), x -> x.longest(1, w));
      refuses(empty(), x -> x.longest(24, w));
      refuses(after(of("ab"), x -> x.cut(0, 1)), x -> x.longest(1, w));
      says("for k below 1");
      for (int k : new int[] {0, -1, MIN}) {
        refuses(of("abbc"), x -> x.longest(k, w));
        refuses(plain(), x -> x.longest(k, w));
      }
    }
    says("another what");
    for (int what : new int[] {-1, 2, 3, MIN, MAX}) {
      refuses(of("abbc"), x -> x.longest(1, what));
    }
    says("k COLOURS at most, of several the first");
    int[][] due = {{1, 2}, {0, 2}, {0, 3}, {0, 3}};
    for (int what = 0; what <= 1; what++) {
      int w = what;
      for (int k = 1; k <= 4; k++) {
        int n = k;
        tells(of("abbc"), due[n - 1][w], x -> x.longest(n, w));
      }
      tells(of("abbc"), w == 0 ? 0 : 3, x -> x.longest(MAX, w));
      tells(of("x"), 0, x -> x.longest(1, w));
      tells(of("abc"), 0, x -> x.longest(1, w));
      tells(of("abbccc"), w == 0 ? 3 : 5, x -> x.longest(1, w));
      tells(of("abbccdd"), w == 0 ? 1 : 2, x -> x.longest(1, w));
      says("with all 160");
      tells(plain(), w * 159, x -> x.longest(1, w));
      tells(cycle(24), 0, x -> x.longest(1, w));
      tells(cycle(24), w * 22, x -> x.longest(23, w));
      tells(cycle(24), w * 159, x -> x.longest(24, w));
      tells(cycle(24), w * 159, x -> x.longest(25, w));
      tells(ends(), w == 0 ? 1 : 158, x -> x.longest(1, w));
      tells(ends(), w == 0 ? 0 : 158, x -> x.longest(2, w));
      tells(ends(), w == 0 ? 0 : 159, x -> x.longest(3, w));
    }
  }

  private static void unlike() {
    promise(44);
    says("NONE without PLACES, for another what");
    refuses(empty(), x -> x.unlike(0));
    refuses(empty(), x -> x.unlike(1));
    for (int what : new int[] {-1, 2, 3, MIN, MAX}) {
      refuses(of("aab"), x -> x.unlike(what));
      refuses(empty(), x -> x.unlike(what));
    }
    says("the longest, of several the first");
    int[] due = {1, 2};
    for (int what = 0; what <= 1; what++) {
      int w = what;
      tells(of("x"), 0, x -> x.unlike(w));
      tells(of("aa"), 0, x -> x.unlike(w));
      tells(of("aab"), due[w], x -> x.unlike(w));
      tells(of("aaba"), due[w], x -> x.unlike(w));
      tells(of("abcc"), w * 2, x -> x.unlike(w));
      tells(of("aabbca"), w == 0 ? 3 : 5, x -> x.unlike(w));
      tells(of("aabba"), w == 0 ? 1 : 2, x -> x.unlike(w));
      says("with all 160");
      tells(plain(), 0, x -> x.unlike(w));
      tells(cycle(24), w * 23, x -> x.unlike(w));
      tells(cycle(2), w, x -> x.unlike(w));
      tells(after(plain(), x -> x.put(159, 2)), 158 + w, x -> x.unlike(w));
    }
  }

  private static void heaviest() {
    promise(45);
    says("the SPAN of n PLACES: NONE if there is none such");
    for (int what = 0; what <= 1; what++) {
      int w = what;
      for (int n : new int[] {0, 1, -1, MIN, MAX}) {
        refuses(empty(), x -> x.heaviest(n, w));
      }
      for (int n : new int[] {0, -1, 5, 6, MIN, MAX}) {
        refuses(of("aabc"), x -> x.heaviest(n, w));
      }
      refuses(plain(), x -> x.heaviest(161, w));
      refuses(plain(), x -> x.heaviest(0, w));
    }
    says("or for another what");
    for (int what : new int[] {-1, 2, 3, MIN, MAX}) {
      refuses(of("aabc"), x -> x.heaviest(1, what));
      refuses(of("aabc"), x -> x.heaviest(5, what));
    }
    says("weigh most together, of several the first");
    tells(of("aabc"), 0, x -> x.heaviest(1, 0));
    tells(of("aabc"), 1, x -> x.heaviest(1, 1));
    tells(of("aabc"), 1, x -> x.heaviest(2, 0));
    tells(of("aabc"), 2, x -> x.heaviest(2, 1));
    tells(of("aabc"), 0, x -> x.heaviest(4, 0));
    tells(of("aabc"), 3, x -> x.heaviest(4, 1));
    says("WEIGHTS 0 .. 999, with all 160");
    tells(weighing(plain(), 0), 0, x -> x.heaviest(1, 0));
    tells(weighing(plain(), 0), 0, x -> x.heaviest(160, 1));
    tells(weighing(cycle(24), 999), 23976, x -> x.heaviest(160, 1));
    tells(weighing(cycle(24), 999), 0, x -> x.heaviest(160, 0));
    tells(weighing(cycle(24), 999), 23976, x -> x.heaviest(24, 1));
    tells(weighing(cycle(24), 999), 999 * 23, x -> x.heaviest(23, 1));
    Maker last = after(plain(), x -> x.put(159, 1), x -> x.weigh(1, 999));
    tells(last, 159, x -> x.heaviest(1, 0));
    tells(last, 999, x -> x.heaviest(1, 1));
    tells(last, 158, x -> x.heaviest(2, 0));
    tells(last, 1000, x -> x.heaviest(2, 1));
    tells(last, 1, x -> x.heaviest(159, 0));
    tells(last, 0, x -> x.heaviest(160, 0));
  }

  private static void distance() {
    promise(46);
    says("NONE if there is no such PLACE");
    refuses(empty(), x -> x.distance(0));
    for (int place : new int[] {-1, 4, 5, MIN, MAX}) {
      refuses(of("abca"), x -> x.distance(place));
    }
    refuses(plain(), x -> x.distance(160));
    refuses(plain(), x -> x.distance(-1));
    says("or it has no BOND");
    refuses(of("abca"), x -> x.distance(0));
    refuses(of("abca"), x -> x.distance(2));
    refuses(plain(), x -> x.distance(0));
    says("the PLACES between that of its BOND and it");
    tells(of("abca"), 2, x -> x.distance(3));
    tells(of("abbba"), 1, x -> x.distance(4));
    tells(of("abbba"), 0, x -> x.distance(2));
    says("with all 160");
    tells(plain(), 0, x -> x.distance(159));
    tells(cycle(24), 23, x -> x.distance(159));
    tells(cycle(24), 23, x -> x.distance(24));
    refuses(cycle(24), x -> x.distance(23));
    tells(after(plain(), x -> x.put(0, 1), x -> x.put(159, 1)), 1, x -> x.distance(159));
    refuses(ends(), x -> x.distance(159));
  }

  private static void misses() {
    promise(47);
    says("a SHELF of n COLOURS (1 .. 24), by a RULE (0, 1); NONE if one can't be");
    for (int n : new int[] {0, -1, 25, 26, MIN, MAX}) {
      for (int rule = 0; rule <= 1; rule++) {
        int u = rule;
        refuses(empty(), x -> x.misses(n, u));
        refuses(of("aba"), x -> x.misses(n, u));
        refuses(cycle(24), x -> x.misses(n, u));
      }
    }
    for (int rule : new int[] {-1, 2, 3, MIN, MAX}) {
      refuses(empty(), x -> x.misses(1, rule));
      refuses(of("aba"), x -> x.misses(1, rule));
      refuses(cycle(24), x -> x.misses(24, rule));
    }
    says("without PLACES, with one");
    for (int rule = 0; rule <= 1; rule++) {
      int u = rule;
      tells(empty(), 0, x -> x.misses(1, u));
      tells(empty(), 0, x -> x.misses(24, u));
      tells(of("x"), 1, x -> x.misses(1, u));
      tells(of("x"), 1, x -> x.misses(24, u));
      says("with all 160");
      tells(plain(), 1, x -> x.misses(1, u));
      tells(cycle(24), 160, x -> x.misses(1, u));
      tells(cycle(24), 24, x -> x.misses(24, u));
      tells(cycle(2), 2, x -> x.misses(2, u));
    }
    tells(cycle(24), 160, x -> x.misses(23, 0));
    // Past the first 24, each 23rd place is a miss: 46, 69, 92, 115, 138.
    tells(cycle(24), 29, x -> x.misses(23, 1));
    says("by RULE 0 the one that was met longest ago, on the SHELF or not");
    tells(of("abac"), bits("ac"), x -> x.shelf(3, 2, 0));
    tells(of("abaca"), 3, x -> x.misses(2, 0));
    tells(of("abacb"), 4, x -> x.misses(2, 0));
  }

  private static void shelf() {
    promise(48);
    says("behind a PLACE; NONE if one can't be");
    for (int rule = 0; rule <= 1; rule++) {
      int u = rule;
      refuses(empty(), x -> x.shelf(0, 1, u));
      refuses(empty(), x -> x.shelf(-1, 1, u));
      for (int place : new int[] {-1, 3, 4, MIN, MAX}) {
        refuses(of("aba"), x -> x.shelf(place, 1, u));
      }
      refuses(plain(), x -> x.shelf(160, 1, u));
      for (int n : new int[] {0, -1, 25, MIN, MAX}) {
        refuses(of("aba"), x -> x.shelf(0, n, u));
      }
    }
    for (int rule : new int[] {-1, 2, 3, MIN, MAX}) {
      refuses(of("aba"), x -> x.shelf(0, 1, rule));
    }
    says("empty at first; full with n");
    for (int rule = 0; rule <= 1; rule++) {
      int u = rule;
      tells(of("abx"), 1, x -> x.shelf(0, 24, u));
      tells(of("abx"), bits("ab"), x -> x.shelf(1, 2, u));
      tells(of("abx"), bits("abx"), x -> x.shelf(2, 3, u));
      tells(of("abx"), bits("bx"), x -> x.shelf(2, 2, u));
      tells(of("abx"), bits("x"), x -> x.shelf(2, 1, u));
      tells(cycle(24), ALL_BITS, x -> x.shelf(159, 24, u));
      tells(cycle(24), ALL_BITS, x -> x.shelf(23, 24, u));
      tells(cycle(24), ALL_BITS >> 1, x -> x.shelf(22, 23, u));
      tells(plain(), 1, x -> x.shelf(159, 1, u));
    }
    tells(cycle(24), ALL_BITS & ~1, x -> x.shelf(23, 23, 0));
    tells(cycle(24), ALL_BITS & ~(1 << 16), x -> x.shelf(159, 23, 0));
    says("by RULE 1 the one that is met again latest");
    tells(cycle(24), ALL_BITS & ~(1 << 22), x -> x.shelf(23, 23, 1));
    tells(cycle(24), ALL_BITS & ~(1 << 22), x -> x.shelf(45, 23, 1));
    tells(cycle(24), ALL_BITS & ~(1 << 21), x -> x.shelf(46, 23, 1));
    says("or never (of several that are never met again the least)");
    tells(cycle(24), ALL_BITS & ~(1 << 18), x -> x.shelf(137, 23, 1));
    tells(cycle(24), ALL_BITS & ~(1 << 16), x -> x.shelf(138, 23, 1));
    tells(of("cbad"), bits("cbd"), x -> x.shelf(3, 3, 1));
    tells(of("cabdc"), bits("cbd"), x -> x.shelf(3, 3, 1));
    tells(of("cabda"), bits("acd"), x -> x.shelf(3, 3, 1));
    tells(of("abcab"), bits("ac"), x -> x.shelf(2, 2, 1));
  }

  private static void suffices() {
    promise(49);
    says("NONE if by none, or one can't be");
    for (int rule = 0; rule <= 1; rule++) {
      int u = rule;
      for (int misses : new int[] {-1, MIN}) {
        refuses(empty(), x -> x.suffices(misses, u));
        refuses(of("aba"), x -> x.suffices(misses, u));
        refuses(cycle(24), x -> x.suffices(misses, u));
      }
      refuses(of("aba"), x -> x.suffices(0, u));
      refuses(of("aba"), x -> x.suffices(1, u));
      tells(of("aba"), 2, x -> x.suffices(2, u));
      tells(of("aba"), 1, x -> x.suffices(3, u));
      tells(of("aba"), 1, x -> x.suffices(MAX, u));
      says("no more than so many MISSES (0 ..): without PLACES");
      tells(empty(), 1, x -> x.suffices(0, u));
      tells(empty(), 1, x -> x.suffices(MAX, u));
      says("with all 160");
      refuses(plain(), x -> x.suffices(0, u));
      tells(plain(), 1, x -> x.suffices(1, u));
      refuses(cycle(24), x -> x.suffices(23, u));
      tells(cycle(24), 24, x -> x.suffices(24, u));
      tells(cycle(24), 1, x -> x.suffices(160, u));
    }
    tells(cycle(24), 24, x -> x.suffices(159, 0));
    tells(cycle(24), 24, x -> x.suffices(28, 1));
    tells(cycle(24), 23, x -> x.suffices(29, 1));
    tells(cycle(24), 2, x -> x.suffices(159, 1));
    says("by another RULE none can be");
    for (int rule : new int[] {-1, 2, 3, MIN, MAX}) {
      refuses(empty(), x -> x.suffices(0, rule));
      refuses(of("aba"), x -> x.suffices(3, rule));
    }
  }

  private static void justAllSets() {
    promise(50);
    says("how many SPANS have just k COLOURS: none, or all");
    for (int k : new int[] {0, 1, -1, 24, 25, MIN, MAX}) {
      tells(empty(), 0, x -> x.just(k));
    }
    for (int k : new int[] {0, -1, 3, 24, 25, MIN, MAX}) {
      tells(of("aab"), 0, x -> x.just(k));
    }
    tells(of("aab"), 4, x -> x.just(1));
    tells(of("aab"), 2, x -> x.just(2));
    tells(of("x"), 1, x -> x.just(1));
    says("with all 160");
    tells(plain(), 160 * 161 / 2, x -> x.just(1));
    tells(plain(), 0, x -> x.just(2));
    tells(cycle(24), 160, x -> x.just(1));
    tells(cycle(24), 138, x -> x.just(23));
    tells(cycle(24), 137 * 138 / 2, x -> x.just(24));
    tells(cycle(24), 0, x -> x.just(25));
    tells(cycle(24), 0, x -> x.just(0));

    promise(51);
    says("COLOURS of all SPANS together: without PLACES, with one, with all 160");
    tells(empty(), 0, x -> x.all());
    tells(of("x"), 1, x -> x.all());
    tells(of("aa"), 3, x -> x.all());
    tells(of("ab"), 4, x -> x.all());
    tells(after(of("ab"), x -> x.cut(0, 1)), 0, x -> x.all());
    tells(plain(), 160 * 161 / 2, x -> x.all());
    tells(cycle(24), 40112 + 24 * 9453, x -> x.all());

    promise(52);
    says("unlike sets of COLOURS; 0 if there are none such");
    for (int n : new int[] {0, 1, -1, 160, 161, MIN, MAX}) {
      tells(empty(), 0, x -> x.sets(n));
    }
    for (int n : new int[] {0, -1, 5, 160, 161, MIN, MAX}) {
      tells(of("aaba"), 0, x -> x.sets(n));
    }
    tells(of("aabb"), 3, x -> x.sets(2));
    tells(of("aabb"), 1, x -> x.sets(3));
    int[] due = {2, 2, 1, 1};
    for (int n = 1; n <= 4; n++) {
      int m = n;
      tells(of("aaba"), due[m - 1], x -> x.sets(m));
    }
    says("with all 160");
    tells(plain(), 1, x -> x.sets(1));
    tells(plain(), 1, x -> x.sets(160));
    tells(plain(), 0, x -> x.sets(161));
    tells(cycle(24), 24, x -> x.sets(1));
    tells(cycle(24), 24, x -> x.sets(23));
    tells(cycle(24), 1, x -> x.sets(24));
    tells(cycle(24), 1, x -> x.sets(160));
    tells(ends(), 3, x -> x.sets(1));
    tells(ends(), 2, x -> x.sets(159));
  }

  private static void match() {
    promise(53);
    says("NONE if it can't be: no SPAN");
    for (int i : new int[] {NONE, 0}) {
      refuses(empty(), x -> x.match(0, 0, i));
      for (int[] s : noSpans(4)) {
        refuses(of("aabb"), x -> x.match(s[0], s[1], i));
      }
      for (int[] s : noSpans(160)) {
        refuses(plain(), x -> x.match(s[0], s[1], i));
      }
    }
    says("itself, too; i NONE; the i-th (0 ..); NONE if there is none such");
    tells(of("aabb"), 2, x -> x.match(0, 1, NONE));
    tells(of("aabb"), 2, x -> x.match(2, 3, NONE));
    tells(of("aabb"), 0, x -> x.match(2, 3, 0));
    tells(of("aabb"), 2, x -> x.match(0, 1, 1));
    for (int i : new int[] {-2, 2, 3, MIN, MAX}) {
      refuses(of("aabb"), x -> x.match(0, 1, i));
    }
    tells(of("aabb"), 1, x -> x.match(0, 3, NONE));
    tells(of("aabb"), 0, x -> x.match(0, 3, 0));
    refuses(of("aabb"), x -> x.match(0, 3, 1));
    tells(of("x"), 1, x -> x.match(0, 0, NONE));
    says("PATTERN: how far ahead, if that doesn't LEAVE it, else 0");
    tells(of("abab"), 3, x -> x.match(0, 1, NONE));
    tells(of("abab"), 2, x -> x.match(0, 2, NONE));
    tells(of("abaab"), 1, x -> x.match(0, 2, NONE));
    tells(of("aabac"), 1, x -> x.match(0, 2, NONE));
    tells(of("aabac"), 1, x -> x.match(1, 3, NONE));
    tells(of("aabac"), 2, x -> x.match(2, 4, 0));
    says("with all 160");
    tells(plain(), 160, x -> x.match(0, 0, NONE));
    tells(plain(), 159, x -> x.match(0, 0, 159));
    refuses(plain(), x -> x.match(0, 0, 160));
    tells(plain(), 1, x -> x.match(0, 159, NONE));
    tells(plain(), 0, x -> x.match(0, 159, 0));
    refuses(plain(), x -> x.match(0, 159, 1));
    tells(plain(), 2, x -> x.match(0, 158, NONE));
    tells(plain(), 1, x -> x.match(1, 159, 1));
    tells(cycle(24), 136, x -> x.match(0, 24, NONE));
    tells(cycle(24), 135, x -> x.match(0, 24, 135));
  }

  private static void twin() {
    promise(54);
    says("NONE if there is none, or for another what");
    for (int what = 0; what <= 1; what++) {
      int w = what;
      refuses(empty(), x -> x.twin(w));
      refuses(of("a"), x -> x.twin(w));
      refuses(after(of("ab"), x -> x.cut(0, 0)), x -> x.twin(w));
    }
    for (int what : new int[] {-1, 2, 3, MIN, MAX}) {
      refuses(empty(), x -> x.twin(what));
      refuses(of("ab"), x -> x.twin(what));
    }
    says("the longest that MATCHES one that begins elsewhere, of several the first");
    tells(of("ab"), 0, x -> x.twin(0));
    tells(of("ab"), 1, x -> x.twin(1));
    tells(of("aa"), 1, x -> x.twin(1));
    tells(of("aab"), 0, x -> x.twin(0));
    tells(of("aab"), 1, x -> x.twin(1));
    tells(of("aabb"), 0, x -> x.twin(0));
    tells(of("aabb"), 2, x -> x.twin(1));
    tells(of("abcc"), 0, x -> x.twin(0));
    tells(of("abcc"), 2, x -> x.twin(1));
    tells(of("aaaba"), 0, x -> x.twin(0));
    tells(of("aaaba"), 2, x -> x.twin(1));
    tells(of("aabaa"), 0, x -> x.twin(0));
    tells(of("aabaa"), 2, x -> x.twin(1));
    tells(of("aabcd"), 1, x -> x.twin(0));
    tells(of("aabcd"), 3, x -> x.twin(1));
    says("with all 160");
    tells(plain(), 0, x -> x.twin(0));
    tells(plain(), 159, x -> x.twin(1));
    tells(cycle(24), 0, x -> x.twin(0));
    tells(cycle(24), 159, x -> x.twin(1));
    tells(after(plain(), x -> x.put(0, 1)), 1, x -> x.twin(0));
    tells(after(plain(), x -> x.put(0, 1)), 158, x -> x.twin(1));
  }

  private static void parts() {
    promise(55);
    says("k 1 ..: NONE for k below 1");
    for (int k : new int[] {0, -1, MIN}) {
      for (int i : new int[] {NONE, 0, 1}) {
        refuses(empty(), x -> x.parts(k, i));
        refuses(of("aab"), x -> x.parts(k, i));
        refuses(plain(), x -> x.parts(k, i));
      }
    }
    says("0 without PLACES");
    for (int k : new int[] {1, 24, 25, MAX}) {
      tells(empty(), 0, x -> x.parts(k, NONE));
      for (int i : new int[] {0, 1, -2, MIN, MAX}) {
        refuses(empty(), x -> x.parts(k, i));
      }
    }
    says("the last place of the i-th (0 ..); NONE if there is none such");
    tells(of("aab"), 2, x -> x.parts(1, NONE));
    tells(of("aab"), 1, x -> x.parts(1, 0));
    tells(of("aab"), 2, x -> x.parts(1, 1));
    for (int i : new int[] {-2, 2, 3, MIN, MAX}) {
      refuses(of("aab"), x -> x.parts(1, i));
    }
    tells(of("aab"), 1, x -> x.parts(2, NONE));
    tells(of("aab"), 2, x -> x.parts(2, 0));
    refuses(of("aab"), x -> x.parts(2, 1));
    tells(of("aab"), 1, x -> x.parts(MAX, NONE));
    tells(of("x"), 1, x -> x.parts(1, NONE));
    tells(of("x"), 0, x -> x.parts(1, 0));
    says("each, from the first on, is as long as can be");
    tells(of("abbcc"), 2, x -> x.parts(2, 0));
    tells(of("abbcc"), 4, x -> x.parts(2, 1));
    says("with all 160");
    tells(plain(), 1, x -> x.parts(1, NONE));
    tells(plain(), 159, x -> x.parts(1, 0));
    tells(cycle(2), 160, x -> x.parts(1, NONE));
    tells(cycle(2), 159, x -> x.parts(1, 159));
    refuses(cycle(2), x -> x.parts(1, 160));
    tells(cycle(24), 1, x -> x.parts(24, NONE));
    tells(cycle(24), 7, x -> x.parts(23, NONE));
    tells(cycle(24), 22, x -> x.parts(23, 0));
    tells(cycle(24), 137, x -> x.parts(23, 5));
    tells(cycle(24), 159, x -> x.parts(23, 6));
    refuses(cycle(24), x -> x.parts(23, 7));
  }

  private static void best() {
    promise(56);
    says("m PARTS (1 .. 8); NONE if there is none such");
    for (int m : new int[] {0, 9, 10, 160, -1, MIN, MAX}) {
      for (int i : new int[] {NONE, 0}) {
        refuses(of("aaaaaaaaaaaa"), x -> x.best(m, i));
        refuses(plain(), x -> x.best(m, i));
        refuses(empty(), x -> x.best(m, i));
      }
    }
    says("each at least one PLACE: without PLACES, with as many, with one fewer");
    for (int m = 1; m <= 8; m++) {
      int n = m;
      refuses(empty(), x -> x.best(n, NONE));
      refuses(empty(), x -> x.best(n, 0));
      tells(of("aaaaaaaa".substring(8 - n)), n, x -> x.best(n, NONE));
      tells(of("aaaaaaaa".substring(8 - n)), n - 1, x -> x.best(n, n - 1));
      refuses(of("aaaaaaaa".substring(9 - n)), x -> x.best(n, NONE));
      refuses(of("aaaaaaaa".substring(9 - n)), x -> x.best(n, 0));
    }
    says("the last place of its i-th PART (0 ..)");
    for (int i : new int[] {-2, 2, 3, 8, MIN, MAX}) {
      refuses(of("abab"), x -> x.best(2, i));
    }
    tells(of("abab"), 4, x -> x.best(2, NONE));
    tells(of("abab"), 1, x -> x.best(2, 0));
    tells(of("abab"), 3, x -> x.best(2, 1));
    tells(of("abab"), 2, x -> x.best(1, NONE));
    tells(of("abab"), 3, x -> x.best(1, 0));
    refuses(of("abab"), x -> x.best(1, 1));
    says("of several the one whose first PART is shortest, then the second, and so on");
    tells(of("aabb"), 3, x -> x.best(2, NONE));
    tells(of("aabb"), 0, x -> x.best(2, 0));
    tells(of("abcabc"), 6, x -> x.best(3, NONE));
    tells(of("abcabc"), 0, x -> x.best(3, 0));
    tells(of("abcabc"), 2, x -> x.best(3, 1));
    tells(of("abcabc"), 5, x -> x.best(3, 2));
    says("with all 160");
    tells(plain(), 1, x -> x.best(1, NONE));
    tells(plain(), 159, x -> x.best(1, 0));
    tells(plain(), 8, x -> x.best(8, NONE));
    tells(plain(), 0, x -> x.best(8, 0));
    tells(plain(), 6, x -> x.best(8, 6));
    tells(plain(), 159, x -> x.best(8, 7));
    refuses(plain(), x -> x.best(8, 8));
    tells(cycle(24), 24, x -> x.best(1, NONE));
    tells(cycle(24), 48, x -> x.best(2, NONE));
    tells(cycle(24), 23, x -> x.best(2, 0));
    tells(cycle(24), 144, x -> x.best(6, NONE));
    tells(cycle(24), 160, x -> x.best(7, NONE));
    int[] seven = {15, 39, 63, 87, 111, 135, 159};
    int[] eight = {0, 15, 39, 63, 87, 111, 135, 159};
    for (int i = 0; i < 7; i++) {
      int j = i;
      tells(cycle(24), seven[j], x -> x.best(7, j));
    }
    tells(cycle(24), 160, x -> x.best(8, NONE));
    for (int i = 0; i < 8; i++) {
      int j = i;
      tells(cycle(24), eight[j], x -> x.best(8, j));
    }
  }

  public static void main(String[] args) {
    reach();
    reachBack();
    load();
    window();
    longest();
    unlike();
    heaviest();
    distance();
    misses();
    shelf();
    suffices();
    justAllSets();
    match();
    twin();
    parts();
    best();
    end(39, 56);
  }
}
