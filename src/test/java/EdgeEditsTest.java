/** The boundary cases of a new object and of the edits: promises 1 to 14. */
public final class EdgeEditsTest extends Bench {
  private static final int[] NO_COLOURS = {-1, 24, MIN, MAX};

  private interface OnSpan {
    long on(SpanColours x, int l, int r);
  }

  /** No edit of a span that is none: without places, with some, with all 160. */
  private static void refusesNoSpans(OnSpan edit) {
    says("a SPAN l .. r: 0 <= l <= r, and r is there; NONE, and nothing happens, if it can't be");
    for (int[] s : noSpans(0)) {
      refuses(empty(), x -> edit.on(x, s[0], s[1]));
    }
    refuses(empty(), x -> edit.on(x, 0, 0));
    for (int[] s : noSpans(3)) {
      refuses(of("aba"), x -> edit.on(x, s[0], s[1]));
    }
    for (int[] s : noSpans(160)) {
      refuses(cycle(24), x -> edit.on(x, s[0], s[1]));
    }
  }

  private static void newObject() {
    promise(1);
    says("no PLACES");
    tells(empty(), 0, x -> x.about(0));
    refuses(empty(), x -> x.at(0, 0));
    says("WEIGHTS 1");
    for (int colour = 0; colour < 24; colour++) {
      int c = colour;
      tells(empty(), 1, x -> x.colour(c, 1));
    }
    says("nothing is ASKED");
    tells(empty(), 0, x -> x.about(5));
    refuses(empty(), x -> x.asked(0, 2));
    says("EDITS are numbered from 1 on; 0 is what was at first");
    tells(empty(), 0, x -> x.about(3));
    tells(empty(), 0, x -> x.was(0, NONE, 0));
    refuses(empty(), x -> x.was(1, NONE, 0));
    tells(of("a"), 1, x -> x.about(3));
    tells(of("a"), 1, x -> x.was(1, NONE, 0));
    tells(of("a"), 0, x -> x.was(0, NONE, 0));
    says("a NAME: from 0 on");
    tells(empty(), 0, x -> x.about(2));
    tells(of("a"), 0, x -> x.at(0, 1));
    says("one object has nothing of another");
    after(of("aab"), x -> x.weigh(0, 9), x -> x.ask(0, 1)).make();
    tells(empty(), 1, x -> x.colour(0, 1));
    tells(empty(), 0, x -> x.about(5));
    says("NONE = -1");
    due(SpanColours.NONE, -1);
  }

  private static void put() {
    promise(2);
    says("NONE, and nothing happens, if it can't be: no such PLACE");
    refuses(empty(), x -> x.put(0, 0));
    refuses(empty(), x -> x.put(-1, 0));
    for (int place : new int[] {-1, 3, 4, MIN, MAX}) {
      refuses(of("aba"), x -> x.put(place, 0));
    }
    refuses(plain(), x -> x.put(160, 1));
    refuses(plain(), x -> x.put(-1, 1));
    says("a COLOUR 0 .. 23");
    for (int colour : NO_COLOURS) {
      refuses(of("aba"), x -> x.put(1, colour));
    }
    does(of("aba"), 0, x -> x.put(1, 23));
    stands(after(of("aba"), x -> x.put(1, 23)), "axa", 0, 1, 2);
    does(of("bab"), 0, x -> x.put(1, 0));
    says("the first PLACE, the last one");
    stands(after(of("aba"), x -> x.put(0, 2)), "cba", 0, 1, 2);
    stands(after(of("aba"), x -> x.put(2, 2)), "abc", 0, 1, 2);
    does(of("aba"), 1, x -> x.put(0, 2));
    does(of("aba"), 1, x -> x.put(2, 2));
    says("with all 160");
    does(cycle(24), 2, x -> x.put(0, 1));
    does(cycle(24), 1, x -> x.put(159, 0));
    tells(after(cycle(24), x -> x.put(159, 0)), 144, x -> x.at(159, 2));
    says("an EDIT that changes nothing is one, too");
    does(of("aba"), 0, x -> x.put(1, 1));
    tells(after(of("aba"), x -> x.put(1, 1)), 4, x -> x.about(3));
    tells(after(of("aba"), x -> x.put(1, 1)), 0, x -> x.touched(4));
    tells(after(of("aba"), x -> x.put(1, 1)), 3, x -> x.was(4, NONE, 0));
  }

  private static void insert() {
    promise(3);
    says("ahead of one (behind the last one, if it is their number)");
    does(empty(), 0, x -> x.insert(0, 0));
    refuses(empty(), x -> x.insert(1, 0));
    refuses(empty(), x -> x.insert(-1, 0));
    stands(after(of("bb"), x -> x.insert(0, 0)), "abb", 2, 0, 1);
    stands(after(of("bb"), x -> x.insert(1, 0)), "bab", 0, 2, 1);
    stands(after(of("bb"), x -> x.insert(2, 0)), "bba", 0, 1, 2);
    for (int place : new int[] {-1, 3, 4, MIN, MAX}) {
      refuses(of("bb"), x -> x.insert(place, 0));
    }
    says("a COLOUR 0 .. 23");
    for (int colour : NO_COLOURS) {
      refuses(of("bb"), x -> x.insert(1, colour));
    }
    stands(after(of("b"), x -> x.insert(0, 23)), "xb", 1, 0);
    says("TOUCHED: of PLACES there ahead of it and behind it");
    does(of("a"), 1, x -> x.insert(0, 0));
    does(of("a"), 0, x -> x.insert(1, 0));
    does(of("aa"), 1, x -> x.insert(1, 0));
    says("NONE if there are 160");
    does(cycle(1, 159), 0, x -> x.insert(159, 0));
    does(cycle(1, 159), 1, x -> x.insert(0, 0));
    tells(after(cycle(1, 159), x -> x.insert(159, 0)), 160, x -> x.about(0));
    for (int place : new int[] {0, 80, 159, 160}) {
      refuses(plain(), x -> x.insert(place, 0));
    }
    does(after(plain(), x -> x.cut(5, 5)), 0, x -> x.insert(159, 0));
    tells(after(plain(), x -> x.cut(5, 5), x -> x.insert(159, 0)), 160, x -> x.at(159, 1));
    says("or no NAME is left (9,999 the last)");
    does(named(9999), 0, x -> x.insert(79, 5));
    tells(after(named(9999), x -> x.insert(0, 5)), 9999, x -> x.at(0, 1));
    tells(after(named(9999), x -> x.insert(0, 5)), 10000, x -> x.about(2));
    refuses(after(named(9999), x -> x.insert(0, 5)), x -> x.insert(0, 5));
    refuses(named(10000), x -> x.insert(0, 0));
    refuses(named(10000), x -> x.insert(80, 0));
    says("a name that is gone is not given again");
    refuses(after(named(10000), x -> x.cut(0, 79)), x -> x.insert(0, 0));
    says("without a NAME left the other EDITS can be");
    does(named(10000), 1, x -> x.put(0, 23));
    does(named(10000), 0, x -> x.turn(3, 3));
  }

  private static void cut() {
    promise(4);
    refusesNoSpans((x, l, r) -> x.cut(l, r));
    says("the PLACES of a SPAN are gone: the first, the last, all");
    stands(after(of("abc"), x -> x.cut(0, 0)), "bc", 1, 2);
    stands(after(of("abc"), x -> x.cut(2, 2)), "ab", 0, 1);
    stands(after(of("abc"), x -> x.cut(0, 2)), "");
    stands(after(of("abc"), x -> x.cut(1, 2)), "a", 0);
    does(of("a"), 0, x -> x.cut(0, 0));
    refuses(after(of("a"), x -> x.cut(0, 0)), x -> x.cut(0, 0));
    says("with all 160");
    does(plain(), 0, x -> x.cut(0, 159));
    tells(after(plain(), x -> x.cut(0, 159)), 0, x -> x.about(0));
    does(plain(), 0, x -> x.cut(159, 159));
    does(plain(), 1, x -> x.cut(0, 0));
    does(plain(), 1, x -> x.cut(0, 158));
    refuses(after(plain(), x -> x.cut(159, 159)), x -> x.cut(159, 159));
    says("TOUCHED: those that are gone are none of them");
    does(of("aaa"), 1, x -> x.cut(0, 1));
    does(of("aaa"), 0, x -> x.cut(1, 2));
    does(of("aaa"), 1, x -> x.cut(1, 1));
    says("a NAME: each another one");
    tells(after(of("abc"), x -> x.cut(0, 2), x -> x.insert(0, 0)), 3, x -> x.at(0, 1));
    tells(after(of("abc"), x -> x.cut(0, 2)), 3, x -> x.about(2));
  }

  private static void paint() {
    promise(5);
    refusesNoSpans((x, l, r) -> x.paint(l, r, 1));
    says("a COLOUR 0 .. 23");
    for (int colour : NO_COLOURS) {
      refuses(of("aba"), x -> x.paint(0, 2, colour));
      refuses(of("aba"), x -> x.paint(2, 1, colour));
    }
    stands(after(of("aba"), x -> x.paint(0, 1, 23)), "xxa", 0, 1, 2);
    stands(after(of("bbb"), x -> x.paint(1, 2, 0)), "baa", 0, 1, 2);
    says("all PLACES of a SPAN: one, the first, the last, all");
    stands(after(of("aba"), x -> x.paint(0, 0, 2)), "cba", 0, 1, 2);
    stands(after(of("aba"), x -> x.paint(2, 2, 2)), "abc", 0, 1, 2);
    stands(after(of("aba"), x -> x.paint(0, 2, 2)), "ccc", 0, 1, 2);
    does(of("aba"), 2, x -> x.paint(0, 2, 1));
    says("with all 160");
    does(plain(), 0, x -> x.paint(0, 159, 23));
    tells(after(plain(), x -> x.paint(0, 159, 23)), 160, x -> x.colour(23, 0));
    does(plain(), 2, x -> x.paint(1, 1, 1));
    does(plain(), 1, x -> x.paint(159, 159, 1));
    does(plain(), 2, x -> x.paint(1, 158, 1));
    says("an EDIT that changes nothing is one, too");
    does(of("aba"), 0, x -> x.paint(0, 0, 0));
    tells(after(of("aba"), x -> x.paint(0, 0, 0)), 4, x -> x.about(3));
  }

  private static void turn() {
    promise(6);
    refusesNoSpans((x, l, r) -> x.turn(l, r));
    says("the other way round: one, two, all");
    does(of("aba"), 0, x -> x.turn(1, 1));
    tells(after(of("aba"), x -> x.turn(1, 1)), 4, x -> x.about(3));
    stands(after(of("abc"), x -> x.turn(1, 1)), "abc", 0, 1, 2);
    stands(after(of("abc"), x -> x.turn(0, 1)), "bac", 1, 0, 2);
    stands(after(of("abc"), x -> x.turn(1, 2)), "acb", 0, 2, 1);
    stands(after(of("abc"), x -> x.turn(0, 2)), "cba", 2, 1, 0);
    says("with all 160");
    does(plain(), 160, x -> x.turn(0, 159));
    does(plain(), 2, x -> x.turn(158, 159));
    does(plain(), 0, x -> x.turn(159, 159));
    tells(after(plain(), x -> x.turn(0, 159)), 159, x -> x.at(0, 1));
    tells(after(plain(), x -> x.turn(0, 159)), 159, x -> x.place(0));
    tells(after(plain(), x -> x.turn(0, 159), x -> x.turn(0, 159)), 0, x -> x.changed(1, 3));
  }

  private static void shift() {
    promise(7);
    refusesNoSpans((x, l, r) -> x.shift(l, r, 0));
    says("the first n PLACES of a SPAN (0 .. all)");
    for (int n : new int[] {-1, 4, 5, MIN, MAX}) {
      refuses(of("abcde"), x -> x.shift(1, 3, n));
    }
    for (int n : new int[] {-1, 2, MIN, MAX}) {
      refuses(of("abc"), x -> x.shift(2, 2, n));
    }
    stands(after(of("abcde"), x -> x.shift(1, 3, 0)), "abcde", 0, 1, 2, 3, 4);
    stands(after(of("abcde"), x -> x.shift(1, 3, 1)), "acdbe", 0, 2, 3, 1, 4);
    stands(after(of("abcde"), x -> x.shift(1, 3, 2)), "adbce", 0, 3, 1, 2, 4);
    stands(after(of("abcde"), x -> x.shift(1, 3, 3)), "abcde", 0, 1, 2, 3, 4);
    does(of("abc"), 0, x -> x.shift(2, 2, 0));
    does(of("abc"), 0, x -> x.shift(2, 2, 1));
    says("an EDIT that changes nothing is one, too");
    tells(after(of("abc"), x -> x.shift(0, 2, 0)), 4, x -> x.about(3));
    tells(after(of("abc"), x -> x.shift(0, 2, 3)), 4, x -> x.about(3));
    says("with all 160");
    does(plain(), 0, x -> x.shift(0, 159, 0));
    does(plain(), 2, x -> x.shift(0, 159, 1));
    does(plain(), 2, x -> x.shift(0, 159, 159));
    does(plain(), 0, x -> x.shift(0, 159, 160));
    refuses(plain(), x -> x.shift(0, 159, 161));
    refuses(plain(), x -> x.shift(0, 159, -1));
    tells(after(plain(), x -> x.shift(0, 159, 159)), 159, x -> x.at(0, 1));
    tells(after(plain(), x -> x.shift(0, 159, 1)), 159, x -> x.place(0));
  }

  private static void sort() {
    promise(8);
    refusesNoSpans((x, l, r) -> x.sort(l, r));
    says("the least first, of like ones as they stood: one, two, all");
    does(of("ba"), 0, x -> x.sort(1, 1));
    tells(after(of("ba"), x -> x.sort(1, 1)), 3, x -> x.about(3));
    stands(after(of("ba"), x -> x.sort(0, 0)), "ba", 0, 1);
    stands(after(of("ba"), x -> x.sort(0, 1)), "ab", 1, 0);
    stands(after(of("cbacb"), x -> x.sort(1, 3)), "cabcb", 0, 2, 1, 3, 4);
    stands(after(of("xaxa"), x -> x.sort(0, 3)), "aaxx", 1, 3, 0, 2);
    stands(after(of("bxaba"), x -> x.sort(0, 4)), "aabbx", 2, 4, 0, 3, 1);
    says("with all 160");
    does(cycle(24), 0, x -> x.sort(0, 159));
    tells(after(cycle(24), x -> x.sort(0, 159)), 0, x -> x.at(6, 0));
    tells(after(cycle(24), x -> x.sort(0, 159)), 1, x -> x.at(7, 0));
    tells(after(cycle(24), x -> x.sort(0, 159)), 23, x -> x.at(159, 0));
    tells(after(cycle(24), x -> x.sort(0, 159)), 144, x -> x.at(6, 1));
    does(plain(), 0, x -> x.sort(0, 159));
  }

  private static void swap() {
    promise(9);
    refusesNoSpans((x, l, r) -> x.swap(l, r, 2, 2));
    refusesNoSpans((x, l, r) -> x.swap(2, 2, l, r));
    refusesNoSpans((x, l, r) -> x.swap(0, 0, l, r));
    says("without a PLACE in common");
    refuses(of("abcde"), x -> x.swap(0, 2, 2, 3));
    refuses(of("abcde"), x -> x.swap(2, 3, 0, 2));
    refuses(of("abcde"), x -> x.swap(1, 1, 1, 1));
    refuses(of("abcde"), x -> x.swap(0, 4, 2, 2));
    refuses(of("abcde"), x -> x.swap(2, 2, 0, 4));
    refuses(of("abcde"), x -> x.swap(0, 4, 0, 0));
    refuses(of("abcde"), x -> x.swap(4, 4, 0, 4));
    stands(after(of("abcde"), x -> x.swap(0, 2, 3, 4)), "deabc", 3, 4, 0, 1, 2);
    stands(after(of("abcde"), x -> x.swap(3, 4, 0, 2)), "deabc", 3, 4, 0, 1, 2);
    says("what is between stays between");
    stands(after(of("abcde"), x -> x.swap(0, 1, 4, 4)), "ecdab", 4, 2, 3, 0, 1);
    stands(after(of("abcde"), x -> x.swap(4, 4, 0, 1)), "ecdab", 4, 2, 3, 0, 1);
    stands(after(of("abcde"), x -> x.swap(1, 1, 3, 3)), "adcbe", 0, 3, 2, 1, 4);
    says("with all 160");
    does(plain(), 3, x -> x.swap(0, 0, 159, 159));
    does(plain(), 3, x -> x.swap(159, 159, 0, 0));
    does(plain(), 2, x -> x.swap(0, 79, 80, 159));
    refuses(plain(), x -> x.swap(0, 80, 80, 159));
    refuses(plain(), x -> x.swap(0, 79, 80, 160));
    tells(after(plain(), x -> x.swap(0, 0, 159, 159)), 159, x -> x.at(0, 1));
    tells(after(plain(), x -> x.swap(0, 0, 159, 159)), 0, x -> x.at(159, 1));
  }

  private static void copy() {
    promise(10);
    refusesNoSpans((x, l, r) -> x.copy(l, r, 0));
    says("ahead of a place (as in insert())");
    stands(after(of("abc"), x -> x.copy(0, 1, 0)), "ababc", 3, 4, 0, 1, 2);
    stands(after(of("abc"), x -> x.copy(0, 1, 3)), "abcab", 0, 1, 2, 3, 4);
    for (int place : new int[] {-1, 4, MIN, MAX}) {
      refuses(of("abc"), x -> x.copy(0, 1, place));
    }
    says("in its order, also if the place is in the SPAN");
    stands(after(of("abc"), x -> x.copy(0, 2, 1)), "aabcbc", 0, 3, 4, 5, 1, 2);
    stands(after(of("abc"), x -> x.copy(2, 2, 2)), "abcc", 0, 1, 3, 2);
    does(of("abc"), 2, x -> x.copy(0, 2, 1));
    says("with all 160: NONE if there are more");
    does(cycle(1, 80), 0, x -> x.copy(0, 79, 80));
    tells(after(cycle(1, 80), x -> x.copy(0, 79, 80)), 160, x -> x.about(0));
    refuses(cycle(1, 81), x -> x.copy(0, 79, 81));
    does(cycle(1, 81), 0, x -> x.copy(0, 78, 81));
    does(cycle(1, 159), 0, x -> x.copy(158, 158, 159));
    refuses(cycle(1, 159), x -> x.copy(157, 158, 159));
    refuses(plain(), x -> x.copy(0, 0, 160));
    refuses(plain(), x -> x.copy(0, 159, 0));
    says("as many NAMES as are left, and one more");
    does(named(9990), 0, x -> x.copy(0, 9, 70));
    tells(after(named(9990), x -> x.copy(0, 9, 0)), 9999, x -> x.at(9, 1));
    refuses(named(9990), x -> x.copy(0, 10, 70));
    refuses(named(10000), x -> x.copy(0, 0, 80));
  }

  private static void mergeAndExchange() {
    promise(11);
    says("another (unlike) one");
    refuses(of("aba"), x -> x.merge(0, 0));
    refuses(of("aba"), x -> x.merge(23, 23));
    refuses(empty(), x -> x.merge(0, 0));
    says("a COLOUR 0 .. 23");
    for (int colour : NO_COLOURS) {
      refuses(of("aba"), x -> x.merge(colour, 0));
      refuses(of("aba"), x -> x.merge(0, colour));
      refuses(empty(), x -> x.merge(0, colour));
    }
    stands(after(of("axa"), x -> x.merge(0, 23)), "xxx", 0, 1, 2);
    stands(after(of("axa"), x -> x.merge(23, 0)), "aaa", 0, 1, 2);
    says("without PLACES, or none of the COLOUR: an EDIT that changes nothing");
    does(empty(), 0, x -> x.merge(0, 1));
    tells(after(empty(), x -> x.merge(0, 1)), 1, x -> x.about(3));
    does(of("aba"), 0, x -> x.merge(2, 0));
    tells(after(of("aba"), x -> x.merge(2, 0)), 4, x -> x.about(3));
    stands(after(of("aba"), x -> x.merge(2, 0)), "aba", 0, 1, 2);
    says("with all 160");
    does(cycle(2), 159, x -> x.merge(0, 1));
    does(plain(), 0, x -> x.merge(0, 23));
    tells(after(plain(), x -> x.merge(0, 23)), 160, x -> x.colour(23, 0));

    promise(12);
    says("two unlike COLOURS");
    refuses(of("aba"), x -> x.exchange(0, 0));
    refuses(empty(), x -> x.exchange(5, 5));
    says("a COLOUR 0 .. 23");
    for (int colour : NO_COLOURS) {
      refuses(of("aba"), x -> x.exchange(colour, 0));
      refuses(of("aba"), x -> x.exchange(0, colour));
    }
    stands(after(of("axb"), x -> x.exchange(0, 23)), "xab", 0, 1, 2);
    stands(after(of("axb"), x -> x.exchange(23, 0)), "xab", 0, 1, 2);
    says("without PLACES, or of one COLOUR, or of neither");
    does(empty(), 0, x -> x.exchange(0, 1));
    tells(after(empty(), x -> x.exchange(0, 1)), 1, x -> x.about(3));
    stands(after(of("aba"), x -> x.exchange(0, 2)), "cbc", 0, 1, 2);
    stands(after(of("aba"), x -> x.exchange(2, 0)), "cbc", 0, 1, 2);
    does(of("aba"), 0, x -> x.exchange(2, 3));
    tells(after(of("aba"), x -> x.exchange(2, 3)), 4, x -> x.about(3));
    says("with all 160");
    does(cycle(2), 0, x -> x.exchange(0, 1));
    tells(after(cycle(2), x -> x.exchange(0, 1)), 1, x -> x.at(0, 0));
    tells(after(cycle(2), x -> x.exchange(0, 1)), 0, x -> x.at(159, 0));
  }

  private static void draw() {
    promise(13);
    says("n new PLACES (1 .. 160)");
    for (int n : new int[] {-1, 0, 161, 162, MIN, MAX}) {
      refuses(empty(), x -> x.draw(0, n, 4));
    }
    does(empty(), 0, x -> x.draw(0, 1, 4));
    does(empty(), 0, x -> x.draw(0, 160, 4));
    tells(after(empty(), x -> x.draw(0, 1, 4)), 1, x -> x.about(0));
    tells(after(empty(), x -> x.draw(0, 160, 4)), 160, x -> x.about(0));
    says("a seed (0 .. 9,999)");
    for (int seed : new int[] {-1, 10000, 10007, MIN, MAX}) {
      refuses(empty(), x -> x.draw(seed, 3, 4));
    }
    stands(after(empty(), x -> x.draw(0, 3, 4)), "dcd", 0, 1, 2);
    tells(after(empty(), x -> x.draw(9999, 1, 24)), 8982 % 24, x -> x.at(0, 0));
    says("colours (1 .. 24)");
    for (int colours : new int[] {-1, 0, 25, MIN, MAX}) {
      refuses(empty(), x -> x.draw(0, 3, colours));
    }
    stands(after(empty(), x -> x.draw(9999, 2, 1)), "aa", 0, 1);
    tells(after(empty(), x -> x.draw(0, 1, 24)), 23, x -> x.at(0, 0));
    tells(after(empty(), x -> x.draw(0, 1, 23)), 2, x -> x.at(0, 0));
    says("modulo 10,007: 9203 becomes 0, then 71; 876 becomes 10,006, then 9941");
    stands(after(empty(), x -> x.draw(9203, 2, 24)), "ax", 0, 1);
    stands(after(empty(), x -> x.draw(876, 2, 24)), "wf", 0, 1);
    says("behind all");
    stands(after(of("bc"), x -> x.draw(0, 2, 4)), "bcdc", 0, 1, 2, 3);
    does(of("dd"), 0, x -> x.draw(0, 2, 4));
    says("NONE if there are more than 160 then");
    does(cycle(1, 159), 0, x -> x.draw(0, 1, 1));
    refuses(cycle(1, 159), x -> x.draw(0, 2, 1));
    refuses(of("a"), x -> x.draw(0, 160, 1));
    does(of("a"), 0, x -> x.draw(0, 159, 1));
    refuses(plain(), x -> x.draw(0, 1, 1));
    says("as many NAMES as are left, and one more");
    does(named(9990), 0, x -> x.draw(0, 10, 24));
    tells(after(named(9990), x -> x.draw(0, 10, 24)), 9999, x -> x.at(79, 1));
    refuses(named(9990), x -> x.draw(0, 11, 24));
    refuses(named(10000), x -> x.draw(0, 1, 24));
    refuses(after(named(10000), x -> x.cut(0, 79)), x -> x.draw(0, 1, 24));
  }

  private static void weigh() {
    promise(14);
    says("WEIGHTS 0 .. 999");
    does(of("ab"), 1, x -> x.weigh(0, 0));
    does(of("ab"), 1, x -> x.weigh(0, 999));
    tells(after(of("ab"), x -> x.weigh(0, 0)), 0, x -> x.colour(0, 1));
    tells(after(of("ab"), x -> x.weigh(0, 999)), 999, x -> x.colour(0, 1));
    for (int weight : new int[] {-1, 1000, MIN, MAX}) {
      refuses(of("ab"), x -> x.weigh(0, weight));
      refuses(after(of("ab"), x -> x.weigh(0, 7)), x -> x.weigh(0, weight));
    }
    says("a COLOUR 0 .. 23");
    for (int colour : NO_COLOURS) {
      refuses(of("ab"), x -> x.weigh(colour, 5));
      refuses(empty(), x -> x.weigh(colour, 5));
    }
    does(after(of("ab"), x -> x.weigh(23, 8)), 8, x -> x.weigh(23, 9));
    says("what it was");
    does(after(of("ab"), x -> x.weigh(0, 0)), 0, x -> x.weigh(0, 4));
    does(after(of("ab"), x -> x.weigh(0, 999)), 999, x -> x.weigh(0, 999));
    says("no EDIT");
    tells(after(of("ab"), x -> x.weigh(0, 5)), 2, x -> x.about(3));
    refuses(after(of("ab"), x -> x.weigh(0, 5)), x -> x.touched(3));
    says("without PLACES, with all 160");
    does(empty(), 1, x -> x.weigh(0, 5));
    tells(after(empty(), x -> x.weigh(0, 5)), 5, x -> x.colour(0, 1));
    tells(after(empty(), x -> x.weigh(0, 5)), 1, x -> x.colour(1, 1));
    does(plain(), 1, x -> x.weigh(0, 5));
    says("a refused EDIT, and one that can be, leave the WEIGHTS");
    tells(after(of("ab"), x -> x.weigh(1, 5), x -> x.merge(0, 1)), 5, x -> x.colour(1, 1));
    tells(after(of("ab"), x -> x.weigh(1, 5), x -> x.merge(0, 1)), 1, x -> x.colour(0, 1));
  }

  /** An object is used for 512 calls: edits through all of them. */
  private static void allCalls() {
    promise(1);
    says("an object is used for at most 512 calls");
    SpanColours x = new SpanColours();
    x.insert(0, 0);
    for (int edit = 2; edit <= 508; edit++) {
      x.put(0, edit % 24);
    }
    due(x.about(3), 508);
    due(x.was(508, 0, 0), 508 % 24);
    due(x.was(469, 0, 0), 469 % 24);
    due(x.was(468, 0, 0), NONE);
  }

  public static void main(String[] args) {
    newObject();
    allCalls();
    put();
    insert();
    cut();
    paint();
    turn();
    shift();
    sort();
    swap();
    copy();
    mergeAndExchange();
    draw();
    weigh();
    end(1, 14);
  }
}
