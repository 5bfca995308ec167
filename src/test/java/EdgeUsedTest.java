import java.util.ArrayList;
import java.util.List;

/** What was asked of one row leaves nothing behind in what is told of the next one. */
public final class EdgeUsedTest extends Bench {
  private static final int[] LS = {0, 1, 4};
  /** One object serves questions so far from one another that they are hardly of one kind. */
  private static final int STRIDE = 41;

  private static List<Call> questions() {
    List<Call> all = new ArrayList<>();
    for (int what = 0; what <= 5; what++) {
      addTold(all, what);
    }
    for (int l : LS) {
      addOfSpan(all, l, 5);
      addOfSpan(all, l, 11);
    }
    for (int k = 1; k <= 8; k++) {
      addByNumber(all, k);
    }
    all.add(x -> x.all());
    return all;
  }

  private static void addTold(List<Call> all, int what) {
    all.add(x -> x.about(what));
    all.add(x -> x.at(5, what));
    all.add(x -> x.colour(0, what));
    all.add(x -> x.window(3, what));
    all.add(x -> x.window(ALL_BITS, what));
    all.add(x -> x.unlike(what));
    all.add(x -> x.twin(what));
    all.add(x -> x.apart(0, 1, what));
    all.add(x -> x.changed(x.about(3), what));
  }

  private static void addOfSpan(List<Call> all, int l, int r) {
    all.add(x -> x.count(l, r));
    all.add(x -> x.weight(l, r));
    all.add(x -> x.set(l, r));
    all.add(x -> x.often(l, r, 2));
    all.add(x -> x.tally(l, r, 2));
    all.add(x -> x.report(l, r, 1, 0));
    all.add(x -> x.kth(l, r, 1, 0));
    all.add(x -> x.kth(l, r, 1, 1));
    all.add(x -> x.kth(l, r, 1, 3));
    all.add(x -> x.kth(l, r, 1, 4));
    all.add(x -> x.major(l, r));
    all.add(x -> x.close(l, r, 0));
    all.add(x -> x.close(l, r, 1));
    all.add(x -> x.sides(l, r));
    all.add(x -> x.cover(l, r));
    all.add(x -> x.least(l, r, 1));
    all.add(x -> x.fair(l, r, 3));
    all.add(x -> x.alike(l, r));
    all.add(x -> x.even(l, r));
    all.add(x -> x.match(l, r, NONE));
  }

  private static void addByNumber(List<Call> all, int k) {
    all.add(x -> x.reach(0, k));
    all.add(x -> x.reachBack(11, k));
    all.add(x -> x.load(0, k));
    all.add(x -> x.longest(k, 0));
    all.add(x -> x.longest(k, 1));
    all.add(x -> x.heaviest(k, 0));
    all.add(x -> x.heaviest(k, 1));
    all.add(x -> x.misses(k, 0));
    all.add(x -> x.misses(k, 1));
    all.add(x -> x.shelf(11, k, 1));
    all.add(x -> x.suffices(2 * k, 1));
    all.add(x -> x.just(k));
    all.add(x -> x.sets(k));
    all.add(x -> x.parts(k, NONE));
    all.add(x -> x.parts(k, 0));
    all.add(x -> x.best(k, NONE));
    all.add(x -> x.best(k, k - 1));
    all.add(x -> x.best(k, 0));
  }

  /** The whole row is made another one, by few edits. */
  private static void becomes(SpanColours x, String letters) {
    if (x.about(0) > 0) {
      x.cut(0, x.about(0) - 1);
    }
    for (int i = 0; i < letters.length(); i++) {
      x.insert(i, letters.charAt(i) - 'a');
    }
  }

  /** The questions of the next row, all questions of the row ahead of it asked or not. */
  private static void dueAlike(Maker maker, String next) {
    List<Call> all = questions();
    for (int begin = 0; begin < STRIDE; begin++) {
      SpanColours used = maker.make();
      SpanColours fresh = maker.make();
      for (Call ahead : all) {
        ahead.on(used);
      }
      becomes(used, next);
      becomes(fresh, next);
      for (int i = begin; i < all.size(); i += STRIDE) {
        due(all.get(i).on(used), all.get(i).on(fresh));
      }
    }
  }

  public static void main(String[] args) {
    promise(1);
    says("everything by places as they stand now");
    String[] rows = {"", "a", "ab", "aab", "aaaaaaaaaaaa", "abcdefghijkl", "abababccabab"};
    for (String next : rows) {
      for (String first : rows) {
        dueAlike(of(first), next);
      }
      dueAlike(plain(), next);
      dueAlike(cycle(24), next);
      dueAlike(weighing(cycle(7, 50), 999), next);
    }
    end(1, 1);
  }
}
