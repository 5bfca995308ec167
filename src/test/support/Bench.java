import java.util.ArrayList;
import java.util.List;

/**
 * What the tests of the boundary cases share. Every answer is looked at on an object of its own, so
 * that no object is ever used for more than the 512 calls that are promised.
 */
class Bench {
  static final int NONE = -1;
  static final int MIN = Integer.MIN_VALUE;
  static final int MAX = Integer.MAX_VALUE;
  static final int ALL_BITS = (1 << 24) - 1;
  /** How many looks one object serves; the calls that made it come on top. */
  private static final int LOOKS_EACH = 150;

  private static final int[] checks = new int[67];
  private static int promise = 0;
  private static String sentence = "";
  private static int wrong = 0;

  /** Makes a new object in the same state, each time. */
  interface Maker {
    SpanColours make();
  }

  interface Call {
    long on(SpanColours x);
  }

  // ---- what is told

  static void promise(int number) {
    promise = number;
    sentence = "";
  }

  /** The sentence of the document that the checks from here on would fail without. */
  static void says(String words) {
    sentence = words;
  }

  static void due(Object got, Object want) {
    checks[promise]++;
    if (!got.equals(want)) {
      wrong++;
      System.out.println("promise " + promise + ", \"" + sentence + "\", at " + line() + ": answered "
          + got + ", due is " + want);
    }
  }

  private static String line() {
    for (StackTraceElement at : new Throwable().getStackTrace()) {
      if (!at.getClassName().startsWith("Bench")) {
        return at.getFileName() + ":" + at.getLineNumber();
      }
    }
    return "?";
  }

  static void end(int first, int last) {
    int sum = 0;
    for (int i = first; i <= last; i++) {
      sum += checks[i];
      if (checks[i] == 0) {
        wrong++;
        System.out.println("promise " + i + " has no check");
      }
    }
    System.out.println(sum + " checks of boundary cases, promises " + first + " to " + last + ", "
        + wrong + " not as due");
    if (wrong != 0) {
      System.exit(1);
    }
  }

  // ---- what is checked

  /** An edit, or another call that changes something: its answer alone. */
  static void does(Maker maker, long want, Call call) {
    due(call.on(maker.make()), want);
  }

  /** A question: its answer, also when others were asked ahead of it, and that nothing happened. */
  static void tells(Maker maker, long want, Call call) {
    due(call.on(maker.make()), want);
    due(call.on(after(maker, Bench::askAbout).make()), want);
    dueNothingHappens(maker, call);
  }

  /** Questions of every kind: what is kept for one of them must not go into the next one. */
  private static long askAbout(SpanColours x) {
    int r = x.about(0) - 1;
    x.count(0, r);
    x.report(0, r, 1, 0);
    x.kth(0, r, 23, 0);
    x.kth(0, r, 23, 3);
    x.close(0, r, 0);
    x.sides(0, r);
    x.cover(0, r);
    x.least(0, r, 2);
    x.even(0, r);
    x.apart(0, 1, 0);
    x.reach(0, 2);
    x.load(0, 2);
    x.window(3, 2);
    x.longest(2, 0);
    x.unlike(0);
    x.heaviest(1, 0);
    x.misses(2, 1);
    x.just(2);
    x.sets(2);
    x.match(0, r, NONE);
    x.twin(0);
    x.parts(1, NONE);
    x.best(2, 0);
    x.counted(x.about(3), 0, r);
    return x.set(0, r);
  }

  /** A call that can't be: NONE, and nothing happened. */
  static void refuses(Maker maker, Call call) {
    tells(maker, NONE, call);
  }

  /** The colours as letters, a being 0, and the names. */
  static void stands(Maker maker, String letters, int... names) {
    StringBuilder got = new StringBuilder();
    StringBuilder want = new StringBuilder(letters);
    SpanColours x = maker.make();
    int size = x.about(0);
    for (int i = 0; i < size; i++) {
      got.append((char) ('a' + x.at(i, 0)));
    }
    for (int i = 0; i < size; i++) {
      got.append(' ').append(x.at(i, 1));
    }
    for (int name : names) {
      want.append(' ').append(name);
    }
    due(got.toString(), want.toString());
  }

  private static void dueNothingHappens(Maker maker, Call call) {
    List<Call> looks = looks(maker);
    for (int from = 0; from < looks.size(); from += LOOKS_EACH) {
      SpanColours with = maker.make();
      SpanColours without = maker.make();
      call.on(with);
      for (int i = from; i < Math.min(from + LOOKS_EACH, looks.size()); i++) {
        long want = looks.get(i).on(without);
        long got = looks.get(i).on(with);
        if (got != want) {
          due("something happened: look " + i + " told " + got, "as if not called: " + want);
          return;
        }
      }
    }
    checks[promise]++;
  }

  /** All that can be seen of an object, and at last what comes next of it. */
  private static List<Call> looks(Maker maker) {
    List<Call> looks = new ArrayList<>();
    int size = maker.make().about(0);
    int edits = maker.make().about(3);
    int asked = maker.make().about(5);
    looks.add(x -> comesNext(x));
    for (int what = 0; what <= 5; what++) {
      int w = what;
      looks.add(x -> x.about(w));
    }
    for (int colour = 0; colour < 24; colour++) {
      int c = colour;
      looks.add(x -> x.colour(c, 1));
    }
    for (int i = 0; i < (size + 1) * 4; i++) {
      int j = i;
      looks.add(x -> x.at(j / 4, j % 4));
    }
    for (int i = 0; i < (asked + 1) * 5; i++) {
      int j = i;
      looks.add(x -> x.asked(j / 5, j % 5));
    }
    for (int edit = Math.max(0, edits - 40); edit <= edits + 1; edit++) {
      addLooksBehind(looks, maker, edit);
    }
    return looks;
  }

  private static void addLooksBehind(List<Call> looks, Maker maker, int edit) {
    looks.add(x -> x.touched(edit));
    looks.add(x -> x.was(edit, NONE, 0));
    int size = maker.make().was(edit, NONE, 0);
    for (int i = 0; i < size * 3; i++) {
      int j = i;
      looks.add(x -> x.was(edit, j / 3, j % 3));
    }
  }

  /** Calls that change something, their answers in one number. */
  private static long comesNext(SpanColours x) {
    long sum = x.solve();
    sum = sum * 31 + x.insert(0, 3);
    sum = sum * 31 + x.at(0, 1);
    sum = sum * 31 + x.turn(0, x.about(0) - 1);
    sum = sum * 31 + x.ask(x.at(0, 1), x.at(0, 1));
    sum = sum * 31 + x.askOf(x.about(3), x.at(0, 1), x.at(0, 1));
    sum = sum * 31 + x.solve();
    for (int what = 0; what <= 5; what++) {
      sum = sum * 31 + x.about(what);
      sum = sum * 31 + x.asked(0, what);
    }
    return sum;
  }

  // ---- objects

  static Maker empty() {
    return () -> new SpanColours();
  }

  /** A colour for each letter, a being 0; the names are 0, 1, 2 and so on, and so the edits from 1. */
  static Maker of(String letters) {
    return () -> {
      SpanColours x = new SpanColours();
      for (int i = 0; i < letters.length(); i++) {
        x.insert(i, letters.charAt(i) - 'a');
      }
      return x;
    };
  }

  /** All 160 places with colour 0, by one edit. */
  static Maker plain() {
    return () -> {
      SpanColours x = new SpanColours();
      x.draw(0, 160, 1);
      return x;
    };
  }

  /** All 160 places, or so many of them, with the colours 0, 1, .. n - 1 over and over. */
  static Maker cycle(int n) {
    return cycle(n, 160);
  }

  static Maker cycle(int n, int places) {
    return () -> {
      SpanColours x = new SpanColours();
      for (int i = 0; i < n; i++) {
        x.insert(i, i);
      }
      for (int size = n; size < places; size = x.about(0)) {
        x.copy(0, Math.min(size - size % n, places - size) - 1, size);
      }
      return x;
    };
  }

  /** So many names given; the last of them, fewer than 160, are there still. */
  static Maker named(int given) {
    return () -> {
      SpanColours x = new SpanColours();
      for (int i = 0; i < given / 160; i++) {
        x.draw(i, 160, 4);
        x.cut(0, 159);
      }
      if (given % 160 > 0) {
        x.draw(0, given % 160, 4);
      }
      return x;
    };
  }

  static Maker after(Maker maker, Call... calls) {
    return () -> {
      SpanColours x = maker.make();
      for (Call call : calls) {
        call.on(x);
      }
      return x;
    };
  }

  /** All 24 colours weigh so much. */
  static Maker weighing(Maker maker, int weight) {
    return () -> {
      SpanColours x = maker.make();
      for (int colour = 0; colour < 24; colour++) {
        x.weigh(colour, weight);
      }
      return x;
    };
  }

  static int bits(String letters) {
    int made = 0;
    for (int i = 0; i < letters.length(); i++) {
      made |= 1 << letters.charAt(i) - 'a';
    }
    return made;
  }

  /** What is no span of so many places: each side of each limit, and far off. */
  static int[][] noSpans(int size) {
    return new int[][] {{-1, 0}, {-1, -1}, {0, -1}, {1, 0}, {0, size}, {size, size}, {size - 1, size},
      {size, size + 1}, {size - 1, size - 2}, {-1, size}, {MIN, 0}, {0, MAX}, {MIN, MAX}, {MAX, MAX},
      {MIN, MIN}, {MAX, MIN}, {MAX, 0}};
  }
}
