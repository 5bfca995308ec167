/** The boundary cases of what was and of what is asked: promises 57 to 66. */
public final class EdgeKnownTest extends Bench {
  /** So many edits that the ring of known rows has gone round not at all, just so, and often. */
  private static final int[] EDITS = {1, 38, 39, 40, 41, 42, 80, 81, 82, 83, 200, 300};

  /** One place; behind edit e it has the colour e modulo 24. */
  private static Maker painted(int edits) {
    return () -> {
      SpanColours x = new SpanColours();
      x.insert(0, 1);
      for (int e = 2; e <= edits; e++) {
        x.put(0, e % 24);
      }
      return x;
    };
  }

  private static boolean isKnown(int edit, int edits) {
    return edit >= 0 && edit <= edits && edit >= edits - 39;
  }

  /** Two places of one colour (edits 1, 2), turned round by each even edit, left by each odd one. */
  private static Maker turnedByTurns(int edits) {
    return () -> {
      SpanColours x = of("aa").make();
      for (int e = 3; e <= edits; e++) {
        x.turn(e % 2, 1);
      }
      return x;
    };
  }

  /** Questions till there are so many: of now and of edit 2 by turns. */
  private static Maker askedOften(int times) {
    return () -> {
      SpanColours x = of("ab").make();
      for (int i = 0; i < times; i++) {
        if (i % 2 == 0) {
          x.ask(0, 1);
        } else {
          x.askOf(2, 1, 0);
        }
      }
      return x;
    };
  }

  private static void known() {
    for (int edits : EDITS) {
      for (int edit = Math.max(0, edits - 42); edit <= edits + 2; edit++) {
        int e = edit;
        boolean known = isKnown(e, edits);
        boolean there = known && e > 0;
        promise(57);
        says("KNOWN is the ROW behind each of the latest 40 of these numbers (0 among them)");
        due(painted(edits).make().was(e, NONE, 0), !known ? NONE : e == 0 ? 0 : 1);
        due(painted(edits).make().was(e, 0, 0), there ? e % 24 : NONE);
        due(painted(edits).make().was(e, 0, 1), there ? 0 : NONE);
        promise(58);
        says("NONE if it is not KNOWN");
        due(painted(edits).make().counted(e, 0, 0), there ? 1 : NONE);
        promise(59);
        says("an EDIT (1 ..); NONE if it is not KNOWN");
        due(turnedByTurns(Math.max(2, edits)).make().touched(e),
            !isKnown(e, Math.max(2, edits)) || e == 0 ? NONE : e >= 3 && e % 2 == 0 ? 2 : 0);
        promise(61);
        says("NONE if it is not KNOWN");
        due(painted(edits).make().changed(e, 0), !known ? NONE : e == 0 ? 0 : 1);
        due(painted(edits).make().changed(e, 2),
            !known ? NONE : e == 0 || e % 24 == edits % 24 ? 0 : 1);
        promise(63);
        says("NONE, and nothing happens, if it is not KNOWN, or a NAME was not there");
        due(painted(edits).make().askOf(e, 0, 0), there ? 0 : NONE);
      }
      promise(60);
      says("the least EDIT of those KNOWN (and it was there)");
      due(painted(edits).make().since(0), Math.max(1, edits - 39));
    }
  }

  private static void was() {
    promise(57);
    says("behind an EDIT how many PLACES there were (place NONE)");
    tells(empty(), 0, x -> x.was(0, NONE, 0));
    tells(of("aba"), 0, x -> x.was(0, NONE, 0));
    tells(of("aba"), 1, x -> x.was(1, NONE, 0));
    tells(of("aba"), 3, x -> x.was(3, NONE, 0));
    tells(plain(), 160, x -> x.was(1, NONE, 0));
    tells(after(plain(), x -> x.cut(0, 159)), 0, x -> x.was(2, NONE, 0));
    tells(after(plain(), x -> x.cut(0, 159)), 160, x -> x.was(1, NONE, 0));
    says("NONE if it is not KNOWN");
    for (int edit : new int[] {-1, 4, 5, MIN, MAX}) {
      for (int place : new int[] {NONE, 0, 2}) {
        refuses(of("aba"), x -> x.was(edit, place, 0));
      }
    }
    refuses(empty(), x -> x.was(-1, NONE, 0));
    refuses(empty(), x -> x.was(1, NONE, 0));
    says("there is none such");
    for (int what = 0; what <= 2; what++) {
      int w = what;
      for (int place : new int[] {-2, 2, 3, MIN, MAX}) {
        refuses(of("aba"), x -> x.was(2, place, w));
      }
      refuses(of("aba"), x -> x.was(0, 0, w));
      refuses(empty(), x -> x.was(0, 0, w));
      refuses(plain(), x -> x.was(1, 160, w));
    }
    says("or for another what");
    for (int what : new int[] {-1, 3, 4, MIN, MAX}) {
      refuses(of("aba"), x -> x.was(3, 2, what));
    }
    says("of a PLACE as it was");
    Maker moved = after(of("aba"), x -> x.turn(0, 1), x -> x.cut(0, 2));
    int[][] three = {{0, 0, NONE}, {1, 1, NONE}, {0, 2, 0}};
    int[][] four = {{1, 1, NONE}, {0, 0, NONE}, {0, 2, 0}};
    for (int place = 0; place < 3; place++) {
      for (int what = 0; what <= 2; what++) {
        int p = place;
        int w = what;
        tells(moved, three[p][w], x -> x.was(3, p, w));
        tells(moved, four[p][w], x -> x.was(4, p, w));
        refuses(moved, x -> x.was(5, p, w));
      }
    }
    says("with all 160");
    Maker gone = after(cycle(24), x -> x.cut(0, 158));
    int full = cycle(24).make().about(3);
    tells(gone, 15, x -> x.was(full, 159, 0));
    tells(gone, 159, x -> x.was(full, 159, 1));
    tells(gone, 135, x -> x.was(full, 159, 2));
    refuses(gone, x -> x.was(full + 1, 0, 2));
    tells(gone, 159, x -> x.was(full + 1, 0, 1));
    says("a refused EDIT is none");
    refuses(after(of("aba"), x -> x.put(3, 0)), x -> x.was(4, NONE, 0));
    says("an EDIT that changes nothing is one, too");
    tells(after(of("aba"), x -> x.put(0, 0)), 3, x -> x.was(4, NONE, 0));
  }

  private static void counted() {
    promise(58);
    says("a SPAN as it was; NONE if there is none such");
    refuses(empty(), x -> x.counted(0, 0, 0));
    for (int[] s : noSpans(3)) {
      refuses(of("abab"), x -> x.counted(3, s[0], s[1]));
    }
    for (int[] s : noSpans(160)) {
      refuses(after(plain(), x -> x.put(0, 1)), x -> x.counted(1, s[0], s[1]));
    }
    tells(of("abab"), 1, x -> x.counted(3, 0, 0));
    tells(of("abab"), 1, x -> x.counted(3, 2, 2));
    tells(of("abab"), 2, x -> x.counted(3, 0, 2));
    tells(of("abab"), 2, x -> x.counted(4, 0, 3));
    refuses(of("abab"), x -> x.counted(0, 0, 0));
    says("NONE if it is not KNOWN");
    for (int edit : new int[] {-1, 5, 6, MIN, MAX}) {
      refuses(of("abab"), x -> x.counted(edit, 0, 0));
    }
    says("with all 160, all gone since");
    int full = cycle(24).make().about(3);
    tells(after(cycle(24), x -> x.cut(0, 159)), 24, x -> x.counted(full, 0, 159));
    tells(after(cycle(24), x -> x.cut(0, 159)), 23, x -> x.counted(full, 137, 159));
    refuses(after(cycle(24), x -> x.cut(0, 159)), x -> x.counted(full + 1, 0, 0));
  }

  private static void touched() {
    promise(59);
    says("an EDIT (1 ..); NONE if it is not KNOWN");
    refuses(empty(), x -> x.touched(0));
    refuses(empty(), x -> x.touched(1));
    for (int edit : new int[] {-1, 0, 4, 5, MIN, MAX}) {
      refuses(of("aba"), x -> x.touched(edit));
    }
    tells(of("aba"), 0, x -> x.touched(1));
    tells(of("aba"), 0, x -> x.touched(3));
    says("of PLACES there ahead of it and behind it those whose BOND is another then");
    tells(after(of("aba"), x -> x.turn(0, 2)), 2, x -> x.touched(4));
    tells(after(of("aba"), x -> x.cut(0, 0)), 1, x -> x.touched(4));
    tells(after(of("aba"), x -> x.insert(0, 0)), 1, x -> x.touched(4));
    tells(after(of("aba"), x -> x.insert(3, 0)), 0, x -> x.touched(4));
    tells(after(of("aba"), x -> x.put(2, 1)), 1, x -> x.touched(4));
    tells(after(of("aba"), x -> x.exchange(0, 1)), 0, x -> x.touched(4));
    says("with all 160");
    tells(after(plain(), x -> x.turn(0, 159)), 160, x -> x.touched(2));
    tells(after(plain(), x -> x.cut(0, 159)), 0, x -> x.touched(2));
    says("0 is no EDIT, also while it is KNOWN");
    refuses(painted(39), x -> x.touched(0));
    tells(painted(40), 0, x -> x.touched(1));
    refuses(painted(41), x -> x.touched(1));
  }

  private static void since() {
    promise(60);
    says("NONE if it is not there");
    for (int name : new int[] {-1, 0, 9999, 10000, MIN, MAX}) {
      refuses(empty(), x -> x.since(name));
    }
    for (int name : new int[] {-1, 3, 4, MIN, MAX}) {
      refuses(of("aba"), x -> x.since(name));
    }
    refuses(after(of("aba"), x -> x.cut(1, 1)), x -> x.since(1));
    refuses(plain(), x -> x.since(160));
    says("(and it was there): from the EDIT on with which it came");
    tells(of("aba"), 1, x -> x.since(0));
    tells(of("aba"), 2, x -> x.since(1));
    tells(of("aba"), 3, x -> x.since(2));
    says("without a change: another BOND, and the same again");
    tells(after(of("aba"), x -> x.put(0, 1)), 4, x -> x.since(2));
    tells(after(of("aba"), x -> x.put(0, 1), x -> x.put(0, 0)), 5, x -> x.since(2));
    tells(after(of("aba"), x -> x.put(0, 1), x -> x.put(0, 0)), 5, x -> x.since(1));
    says("another place, another COLOUR, with the same BOND is no change");
    tells(after(of("aba"), x -> x.cut(1, 1)), 3, x -> x.since(2));
    tells(after(of("aba"), x -> x.exchange(0, 1)), 3, x -> x.since(2));
    tells(after(of("aba"), x -> x.put(1, 5)), 2, x -> x.since(1));
    says("of those KNOWN");
    tells(painted(40), 1, x -> x.since(0));
    tells(painted(41), 2, x -> x.since(0));
    tells(after(painted(41), x -> x.insert(1, 20)), 42, x -> x.since(1));
    says("with all 160");
    tells(plain(), 1, x -> x.since(159));
    tells(after(plain(), x -> x.put(158, 1)), 2, x -> x.since(159));
    tells(after(plain(), x -> x.put(158, 1)), 1, x -> x.since(157));
    says("the last NAME");
    tells(named(10000), 125, x -> x.since(9999));
    refuses(named(10000), x -> x.since(10000));
  }

  private static void changed() {
    promise(61);
    says("NONE if it is not KNOWN");
    for (int what = 0; what <= 3; what++) {
      int w = what;
      for (int edit : new int[] {-1, 4, 5, MIN, MAX}) {
        refuses(of("aba"), x -> x.changed(edit, w));
      }
      refuses(empty(), x -> x.changed(1, w));
      refuses(empty(), x -> x.changed(-1, w));
      says("NAMES there behind an EDIT and now: none");
      tells(empty(), 0, x -> x.changed(0, w));
      tells(of("aba"), 0, x -> x.changed(0, w));
      tells(after(of("aba"), x -> x.cut(0, 2)), 0, x -> x.changed(3, w));
      tells(after(plain(), x -> x.cut(0, 159), x -> x.draw(0, 160, 2)), 0, x -> x.changed(1, w));
      says("the latest EDIT: nothing is another one");
      tells(of("aba"), w == 0 ? 3 : 0, x -> x.changed(3, w));
      tells(plain(), w == 0 ? 160 : 0, x -> x.changed(1, w));
    }
    says("or for another what");
    for (int what : new int[] {-1, 4, 5, MIN, MAX}) {
      refuses(of("aba"), x -> x.changed(3, what));
      refuses(of("aba"), x -> x.changed(0, what));
    }
    says("with all 160: at another place, of another COLOUR, of another BOND");
    int[] turned = {160, 160, 0, 160};
    int[] painted = {160, 0, 160, 0};
    int[] cut = {159, 159, 0, 1};
    int[] last = {159, 0, 0, 0};
    int[] merged = {160, 0, 80, 159};
    int split = cycle(2).make().about(3);
    for (int what = 0; what <= 3; what++) {
      int w = what;
      tells(after(plain(), x -> x.turn(0, 159)), turned[w], x -> x.changed(1, w));
      tells(after(plain(), x -> x.paint(0, 159, 23)), painted[w], x -> x.changed(1, w));
      tells(after(plain(), x -> x.cut(0, 0)), cut[w], x -> x.changed(1, w));
      tells(after(plain(), x -> x.cut(159, 159)), last[w], x -> x.changed(1, w));
      tells(after(cycle(2), x -> x.merge(0, 1)), merged[w], x -> x.changed(split, w));
    }
    says("changed and changed back is no change");
    Maker back = after(of("aba"), x -> x.put(0, 5), x -> x.put(0, 0));
    tells(back, 0, x -> x.changed(3, 2));
    tells(back, 0, x -> x.changed(3, 3));
    tells(back, 1, x -> x.changed(4, 2));
    tells(back, 1, x -> x.changed(4, 3));
  }

  private static void ask() {
    promise(62);
    says("NONE, and nothing happens, if a NAME is not there");
    for (int name : new int[] {-1, 0, 9999, 10000, MIN, MAX}) {
      refuses(empty(), x -> x.ask(name, name));
    }
    Maker cut = after(of("aba"), x -> x.cut(1, 1));
    for (int name : new int[] {-1, 1, 3, 4, MIN, MAX}) {
      refuses(cut, x -> x.ask(name, 0));
      refuses(cut, x -> x.ask(0, name));
      refuses(cut, x -> x.ask(name, name));
    }
    does(cut, 0, x -> x.ask(0, 2));
    does(cut, 0, x -> x.ask(2, 0));
    does(cut, 0, x -> x.ask(2, 2));
    says("numbered from 0 on as they come; NONE, and nothing happens, if there are 30");
    for (int number = 0; number < 30; number++) {
      does(askedOften(number), number, x -> x.ask(0, 1));
    }
    refuses(askedOften(30), x -> x.ask(0, 1));
    refuses(askedOften(30), x -> x.ask(1, 0));
    refuses(after(askedOften(30), x -> x.solve()), x -> x.ask(0, 1));
    refuses(askedOften(29), x -> x.ask(0, 2));
    says("a refused one has no number");
    does(after(of("ab"), x -> x.ask(0, 2), x -> x.ask(-1, 0)), 0, x -> x.ask(0, 1));
    says("no EDIT");
    tells(after(of("ab"), x -> x.ask(0, 1)), 2, x -> x.about(3));
    says("with all 160, with the last NAME");
    does(plain(), 0, x -> x.ask(0, 159));
    refuses(plain(), x -> x.ask(0, 160));
    does(named(10000), 0, x -> x.ask(9920, 9999));
    refuses(named(10000), x -> x.ask(9919, 9999));
    refuses(named(10000), x -> x.ask(9920, 10000));
  }

  private static void askOf() {
    promise(63);
    says("an EDIT (0 .. the latest); NONE, and nothing happens, if it is not KNOWN");
    for (int edit : new int[] {-1, 3, 4, MIN, MAX}) {
      refuses(of("ab"), x -> x.askOf(edit, 0, 0));
    }
    refuses(empty(), x -> x.askOf(0, 0, 0));
    refuses(empty(), x -> x.askOf(1, 0, 0));
    refuses(of("ab"), x -> x.askOf(0, 0, 0));
    does(of("ab"), 0, x -> x.askOf(1, 0, 0));
    does(of("ab"), 0, x -> x.askOf(2, 0, 1));
    does(painted(40), 0, x -> x.askOf(1, 0, 0));
    refuses(painted(41), x -> x.askOf(1, 0, 0));
    does(painted(41), 0, x -> x.askOf(2, 0, 0));
    does(painted(41), 0, x -> x.askOf(41, 0, 0));
    refuses(painted(41), x -> x.askOf(42, 0, 0));
    says("a NAME was not there");
    for (int name : new int[] {-1, 1, 2, MIN, MAX}) {
      refuses(of("ab"), x -> x.askOf(1, 0, name));
      refuses(of("ab"), x -> x.askOf(1, name, 0));
    }
    says("were behind it, gone or not");
    Maker gone = after(of("ab"), x -> x.cut(0, 0));
    does(gone, 0, x -> x.askOf(2, 0, 1));
    refuses(gone, x -> x.askOf(3, 0, 1));
    does(after(gone, x -> x.cut(0, 0)), 0, x -> x.askOf(2, 1, 0));
    says("or there are 30");
    for (int number = 0; number < 30; number++) {
      does(askedOften(number), number, x -> x.askOf(2, 0, 1));
    }
    refuses(askedOften(30), x -> x.askOf(2, 0, 1));
    says("with all 160");
    does(after(plain(), x -> x.cut(0, 159)), 0, x -> x.askOf(1, 0, 159));
    refuses(after(plain(), x -> x.cut(0, 159)), x -> x.askOf(1, 0, 160));
    refuses(after(plain(), x -> x.cut(0, 159)), x -> x.askOf(2, 0, 159));
  }

  private static void solve() {
    promise(64);
    says("how many have ANSWERS: none ASKED, one, 30");
    does(empty(), 0, x -> x.solve());
    does(of("ab"), 0, x -> x.solve());
    does(askedOften(1), 1, x -> x.solve());
    does(askedOften(29), 29, x -> x.solve());
    does(askedOften(30), 30, x -> x.solve());
    does(after(askedOften(30), x -> x.solve()), 30, x -> x.solve());
    does(after(askedOften(30), x -> x.forget()), 0, x -> x.solve());
    tells(after(askedOften(30), x -> x.solve()), 2, x -> x.asked(0, 0));
    tells(after(askedOften(30), x -> x.solve()), 2, x -> x.asked(29, 0));
    says("no EDIT");
    tells(after(askedOften(30), x -> x.solve()), 2, x -> x.about(3));
    says("those with a NAME that is gone have none (NONE)");
    Maker first = after(of("abc"), x -> x.ask(0, 2), x -> x.ask(1, 2), x -> x.cut(0, 0));
    Maker second = after(of("abc"), x -> x.ask(2, 0), x -> x.ask(1, 2), x -> x.cut(0, 0));
    for (Maker one : new Maker[] {first, second}) {
      does(one, 1, x -> x.solve());
      refuses(after(one, x -> x.solve()), x -> x.asked(0, 0));
      refuses(after(one, x -> x.solve()), x -> x.asked(0, 1));
      tells(after(one, x -> x.solve()), 2, x -> x.asked(1, 0));
    }
    does(after(askedOften(1), x -> x.cut(0, 1)), 0, x -> x.solve());
    says("of an EDIT that is not KNOWN then");
    does(after(painted(40), x -> x.askOf(1, 0, 0)), 1, x -> x.solve());
    Maker late = after(painted(40), x -> x.askOf(1, 0, 0), x -> x.askOf(2, 0, 0));
    does(late, 2, x -> x.solve());
    does(after(late, x -> x.put(0, 0)), 1, x -> x.solve());
    refuses(after(late, x -> x.solve(), x -> x.put(0, 0), x -> x.solve()), x -> x.asked(0, 0));
    refuses(after(late, x -> x.solve(), x -> x.put(0, 0), x -> x.solve()), x -> x.asked(0, 1));
    tells(after(late, x -> x.solve(), x -> x.put(0, 0), x -> x.solve()), 1, x -> x.asked(1, 0));
    does(after(late, x -> x.put(0, 0), x -> x.put(0, 0)), 0, x -> x.solve());
    says("as they stood behind the EDIT, gone since");
    Maker cut = after(of("abc"), x -> x.askOf(3, 0, 2), x -> x.cut(0, 2));
    does(cut, 1, x -> x.solve());
    tells(after(cut, x -> x.solve()), 3, x -> x.asked(0, 0));
    says("from the one to the other one, whichever is ahead, as they stand when it is answered");
    Maker turned = after(of("abcd"), x -> x.ask(0, 1), x -> x.ask(1, 0), x -> x.shift(0, 3, 1));
    does(turned, 2, x -> x.solve());
    tells(after(turned, x -> x.solve()), 4, x -> x.asked(0, 0));
    tells(after(turned, x -> x.solve()), 4, x -> x.asked(1, 0));
    tells(after(of("abcd"), x -> x.ask(2, 2), x -> x.solve()), 1, x -> x.asked(0, 0));
    says("WEIGHTS as they are now: 0 .. 999");
    Maker heavy = weighing(after(cycle(24), x -> x.ask(0, 159)), 999);
    tells(after(heavy, x -> x.solve()), 24, x -> x.asked(0, 0));
    tells(after(heavy, x -> x.solve()), 23976, x -> x.asked(0, 1));
    Maker light = weighing(after(cycle(24), x -> x.ask(159, 0)), 0);
    does(light, 1, x -> x.solve());
    tells(after(light, x -> x.solve()), 0, x -> x.asked(0, 1));
    Maker then = weighing(after(of("ab"), x -> x.askOf(2, 0, 1), x -> x.cut(0, 1)), 5);
    tells(after(then, x -> x.solve()), 10, x -> x.asked(0, 1));
  }

  private static void asked() {
    promise(65);
    says("NONE if there is none such");
    for (int what = 0; what <= 4; what++) {
      int w = what;
      refuses(empty(), x -> x.asked(0, w));
      refuses(after(of("ab"), x -> x.ask(0, 1), x -> x.forget()), x -> x.asked(0, w));
      for (int number : new int[] {-1, 2, 3, 29, 30, MIN, MAX}) {
        refuses(after(askedOften(2), x -> x.solve()), x -> x.asked(number, w));
      }
      refuses(after(askedOften(30), x -> x.solve()), x -> x.asked(30, w));
      refuses(after(askedOften(29), x -> x.solve()), x -> x.asked(29, w));
    }
    says("or for another what");
    for (int what : new int[] {-1, 5, 6, MIN, MAX}) {
      refuses(after(askedOften(2), x -> x.solve()), x -> x.asked(0, what));
    }
    says("NONE: not SOLVED yet; 4: of which EDIT (NONE: of none)");
    int[][] fresh = {{NONE, NONE, 0, 1, NONE}, {NONE, NONE, 1, 0, 2}};
    int[][] solved = {{2, 2, 0, 1, NONE}, {2, 2, 1, 0, 2}};
    for (int what = 0; what <= 4; what++) {
      int w = what;
      for (int number = 0; number <= 1; number++) {
        int n = number;
        tells(askedOften(2), fresh[n][w], x -> x.asked(n, w));
        tells(after(askedOften(2), x -> x.solve()), solved[n][w], x -> x.asked(n, w));
      }
      tells(after(askedOften(30), x -> x.solve()), solved[1][w], x -> x.asked(29, w));
    }
    says("ANSWERS stay till all are SOLVED again");
    Maker cut = after(askedOften(1), x -> x.solve(), x -> x.weigh(0, 9), x -> x.cut(0, 0));
    tells(cut, 2, x -> x.asked(0, 0));
    tells(cut, 2, x -> x.asked(0, 1));
    tells(cut, 0, x -> x.asked(0, 2));
    tells(after(cut, x -> x.ask(1, 1)), 2, x -> x.asked(0, 0));
    refuses(after(cut, x -> x.ask(1, 1)), x -> x.asked(1, 0));
    refuses(after(cut, x -> x.solve()), x -> x.asked(0, 0));
    refuses(after(cut, x -> x.solve()), x -> x.asked(0, 1));
    tells(after(cut, x -> x.solve()), 1, x -> x.asked(0, 3));
    says("ASKED again behind forget(): not SOLVED yet");
    Maker again = after(askedOften(2), x -> x.solve(), x -> x.forget(), x -> x.ask(1, 1));
    refuses(again, x -> x.asked(0, 0));
    refuses(again, x -> x.asked(0, 1));
    tells(again, 1, x -> x.asked(0, 2));
    refuses(again, x -> x.asked(0, 4));
    refuses(again, x -> x.asked(1, 2));
  }

  private static void forget() {
    promise(66);
    says("how many were: none, one, 30");
    does(empty(), 0, x -> x.forget());
    does(of("ab"), 0, x -> x.forget());
    does(askedOften(1), 1, x -> x.forget());
    does(askedOften(29), 29, x -> x.forget());
    does(askedOften(30), 30, x -> x.forget());
    says("nothing is ASKED any more");
    does(after(askedOften(30), x -> x.forget()), 0, x -> x.forget());
    tells(after(askedOften(30), x -> x.forget()), 0, x -> x.about(5));
    tells(after(askedOften(30), x -> x.forget()), 2, x -> x.about(3));
    says("numbered from 0 on, 30 of them again");
    does(after(askedOften(30), x -> x.forget()), 0, x -> x.ask(0, 1));
    does(after(askedOften(30), x -> x.forget()), 0, x -> x.askOf(2, 0, 1));
    Maker again = () -> {
      SpanColours x = askedOften(30).make();
      x.forget();
      for (int i = 0; i < 29; i++) {
        x.ask(0, 1);
      }
      return x;
    };
    does(again, 29, x -> x.ask(0, 1));
    refuses(after(again, x -> x.ask(0, 1)), x -> x.ask(0, 1));
    says("without anything ASKED nothing happens");
    tells(of("ab"), 0, x -> x.forget());
    tells(of("ab"), 0, x -> x.solve());
  }

  public static void main(String[] args) {
    known();
    was();
    counted();
    touched();
    since();
    changed();
    ask();
    askOf();
    solve();
    asked();
    forget();
    end(57, 66);
  }
}
