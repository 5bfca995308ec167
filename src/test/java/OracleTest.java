import java.lang.reflect.Method;
import java.util.ArrayList;
import java.util.HashSet;
import java.util.List;
import java.util.Random;
import java.util.Set;
import java.util.TreeSet;

/** Long runs of calls against a model that follows the document's words one by one. */
public final class OracleTest {
  private static final int NONE = -1;

  /** Each method with the kinds of its arguments: see argument(). */
  private static final String[] EDITS = {
    "put pc", "insert gc", "insert gc", "cut S", "paint Sc", "turn S", "shift Sn", "sort S",
    "swap SS", "copy Sg", "merge cc", "exchange cc", "draw sNd", "weigh cW",
  };
  private static final String[] QUESTIONS = {
    "at pw", "place m", "colour cw", "nth ck", "about w", "count S", "weight S", "set S",
    "times Sc", "often Sk", "report Skw", "kth Skw", "absent Sk", "both SSw", "tally Sk",
    "major S", "close Sw", "sides S", "cover S", "least Sk", "fair Sk", "alike S", "even S",
    "apart ccw", "reach pk", "reachBack pk", "load pL", "window bw", "longest kw", "unlike w",
    "heaviest nw", "distance p", "misses hv", "shelf phv", "suffices nv", "just k", "all ",
    "sets n", "match Si", "twin w", "parts ki", "best ti", "was epw", "was eiw", "counted eS",
    "touched e", "since m", "changed ew", "ask mm", "askOf eMM", "solve ", "asked qw", "forget ",
  };

  private static int wrong = 0;
  private static int calls = 0;

  private static final class Model {
    private final List<List<int[]>> rows = new ArrayList<>();
    private final List<Integer> touches = new ArrayList<>();
    private final int[] weights = new int[24];
    private List<int[]> row = new ArrayList<>();
    private final List<int[]> asked = new ArrayList<>();
    private int named = 0;

    Model() {
      java.util.Arrays.fill(weights, 1);
      rows.add(row);
      touches.add(0);
    }

    private static List<int[]> copyOf(List<int[]> of) {
      List<int[]> made = new ArrayList<>();
      for (int[] one : of) {
        made.add(one.clone());
      }
      return made;
    }

    private static int bond(List<int[]> in, int place) {
      for (int i = place - 1; i >= 0; i--) {
        if (in.get(i)[0] == in.get(place)[0]) {
          return in.get(i)[1];
        }
      }
      return NONE;
    }

    private static int find(List<int[]> in, int name) {
      for (int i = 0; i < in.size(); i++) {
        if (in.get(i)[1] == name) {
          return i;
        }
      }
      return NONE;
    }

    private static boolean span(List<int[]> in, int l, int r) {
      return l >= 0 && l <= r && r < in.size();
    }

    private boolean span(int l, int r) {
      return span(row, l, r);
    }

    private static boolean isColour(int c) {
      return c >= 0 && c <= 23;
    }

    private static TreeSet<Integer> colours(List<int[]> in, int l, int r) {
      TreeSet<Integer> made = new TreeSet<>();
      for (int i = l; i <= r; i++) {
        made.add(in.get(i)[0]);
      }
      return made;
    }

    private int weightOf(Set<Integer> colours) {
      int sum = 0;
      for (int c : colours) {
        sum += weights[c];
      }
      return sum;
    }

    private int edit(List<int[]> next) {
      int touched = 0;
      for (int i = 0; i < next.size(); i++) {
        int before = find(row, next.get(i)[1]);
        if (before >= 0 && bond(row, before) != bond(next, i)) {
          touched++;
        }
      }
      row = next;
      rows.add(next);
      touches.add(touched);
      return touched;
    }

    public int put(int place, int colour) {
      if (place < 0 || place >= row.size() || !isColour(colour)) return NONE;
      List<int[]> next = copyOf(row);
      next.get(place)[0] = colour;
      return edit(next);
    }

    public int insert(int place, int colour) {
      if (place < 0 || place > row.size() || !isColour(colour)) return NONE;
      if (row.size() == 160 || named == 10000) return NONE;
      List<int[]> next = copyOf(row);
      next.add(place, new int[] {colour, named++});
      return edit(next);
    }

    public int cut(int l, int r) {
      if (!span(l, r)) return NONE;
      List<int[]> next = copyOf(row);
      next.subList(l, r + 1).clear();
      return edit(next);
    }

    public int paint(int l, int r, int colour) {
      if (!span(l, r) || !isColour(colour)) return NONE;
      List<int[]> next = copyOf(row);
      for (int i = l; i <= r; i++) next.get(i)[0] = colour;
      return edit(next);
    }

    public int turn(int l, int r) {
      if (!span(l, r)) return NONE;
      List<int[]> next = copyOf(row);
      java.util.Collections.reverse(next.subList(l, r + 1));
      return edit(next);
    }

    public int shift(int l, int r, int n) {
      if (!span(l, r) || n < 0 || n > r - l + 1) return NONE;
      List<int[]> next = copyOf(row);
      java.util.Collections.rotate(next.subList(l, r + 1), -n);
      return edit(next);
    }

    public int sort(int l, int r) {
      if (!span(l, r)) return NONE;
      List<int[]> next = copyOf(row);
      next.subList(l, r + 1).sort((a, b) -> Integer.compare(a[0], b[0]));
      return edit(next);
    }

    public int swap(int l, int r, int from, int to) {
      if (!span(l, r) || !span(from, to)) return NONE;
      for (int i = l; i <= r; i++) {
        if (i >= from && i <= to) return NONE;
      }
      List<int[]> next = new ArrayList<>();
      for (int i = 0; i < row.size(); i++) {
        if (i == l) {
          for (int j = from; j <= to; j++) next.add(row.get(j).clone());
        }
        if (i == from) {
          for (int j = l; j <= r; j++) next.add(row.get(j).clone());
        }
        if ((i < l || i > r) && (i < from || i > to)) next.add(row.get(i).clone());
      }
      return edit(next);
    }

    public int copy(int l, int r, int place) {
      if (!span(l, r) || place < 0 || place > row.size()) return NONE;
      int more = r - l + 1;
      if (row.size() + more > 160 || named + more > 10000) return NONE;
      List<int[]> fresh = new ArrayList<>();
      for (int i = l; i <= r; i++) fresh.add(new int[] {row.get(i)[0], named++});
      List<int[]> next = copyOf(row);
      next.addAll(place, fresh);
      return edit(next);
    }

    public int merge(int colour, int into) {
      if (!isColour(colour) || !isColour(into) || colour == into) return NONE;
      List<int[]> next = copyOf(row);
      for (int[] one : next) if (one[0] == colour) one[0] = into;
      return edit(next);
    }

    public int exchange(int colour, int other) {
      if (!isColour(colour) || !isColour(other) || colour == other) return NONE;
      List<int[]> next = copyOf(row);
      for (int[] one : next) {
        if (one[0] == colour) one[0] = other;
        else if (one[0] == other) one[0] = colour;
      }
      return edit(next);
    }

    public int draw(int seed, int n, int colours) {
      if (seed < 0 || seed > 9999 || n < 1 || n > 160 || colours < 1 || colours > 24) return NONE;
      if (row.size() + n > 160 || named + n > 10000) return NONE;
      List<int[]> next = copyOf(row);
      int s = seed;
      for (int i = 0; i < n; i++) {
        s = (137 * s + 71) % 10007;
        next.add(new int[] {s % colours, named++});
      }
      return edit(next);
    }

    public int weigh(int colour, int weight) {
      if (!isColour(colour) || weight < 0 || weight > 999) return NONE;
      int was = weights[colour];
      weights[colour] = weight;
      return was;
    }

    public int at(int place, int what) {
      if (place < 0 || place >= row.size()) return NONE;
      if (what == 0) return row.get(place)[0];
      if (what == 1) return row.get(place)[1];
      if (what == 2) return bond(row, place);
      if (what == 3) {
        for (int i = place + 1; i < row.size(); i++) {
          if (row.get(i)[0] == row.get(place)[0]) return row.get(i)[1];
        }
      }
      return NONE;
    }

    public int place(int name) {
      return find(row, name);
    }

    private List<Integer> placesOf(int colour) {
      List<Integer> made = new ArrayList<>();
      for (int i = 0; i < row.size(); i++) if (row.get(i)[0] == colour) made.add(i);
      return made;
    }

    public int colour(int colour, int what) {
      if (!isColour(colour)) return NONE;
      List<Integer> places = placesOf(colour);
      if (what == 0) return places.size();
      if (what == 1) return weights[colour];
      if (what == 2) return places.isEmpty() ? NONE : places.get(0);
      if (what == 3) return places.isEmpty() ? NONE : places.get(places.size() - 1);
      int most = NONE;
      if (what == 4) {
        for (int i = 1; i < places.size(); i++) {
          most = Math.max(most, places.get(i) - places.get(i - 1) - 1);
        }
      }
      return most;
    }

    public int nth(int colour, int k) {
      List<Integer> places = placesOf(colour);
      return k >= 0 && k < places.size() ? places.get(k) : NONE;
    }

    public int about(int what) {
      if (what == 0) return row.size();
      if (what == 1) return colours(row, 0, row.size() - 1).size();
      if (what == 2) return named;
      if (what == 3) return rows.size() - 1;
      if (what == 4) return touches.stream().mapToInt(t -> t).sum();
      if (what == 5) return asked.size();
      return NONE;
    }

    public int count(int l, int r) {
      return span(l, r) ? colours(row, l, r).size() : NONE;
    }

    public int weight(int l, int r) {
      return span(l, r) ? weightOf(colours(row, l, r)) : NONE;
    }

    private static int bits(Set<Integer> colours) {
      int made = 0;
      for (int c : colours) made |= 1 << c;
      return made;
    }

    public int set(int l, int r) {
      return span(l, r) ? bits(colours(row, l, r)) : NONE;
    }

    public int times(int l, int r, int colour) {
      if (!span(l, r) || !isColour(colour)) return NONE;
      int n = 0;
      for (int i = l; i <= r; i++) if (row.get(i)[0] == colour) n++;
      return n;
    }

    public int often(int l, int r, int t) {
      if (!span(l, r) || t < 1) return NONE;
      int n = 0;
      for (int c = 0; c < 24; c++) if (times(l, r, c) >= t) n++;
      return n;
    }

    public int report(int l, int r, int k, int what) {
      if (!span(l, r)) return NONE;
      List<int[]> list = new ArrayList<>();
      for (int i = l; i <= r; i++) {
        int at = find(row, bond(row, i));
        if (at < l) list.add(new int[] {at, i});
      }
      list.sort((a, b) -> a[0] != b[0] ? Integer.compare(a[0], b[0]) : Integer.compare(a[1], b[1]));
      if (k < 0 || k >= list.size()) return NONE;
      int place = list.get(k)[1];
      if (what == 0) return place;
      if (what == 1) return row.get(place)[0];
      if (what == 2) return bond(row, place);
      return NONE;
    }

    public int kth(int l, int r, int k, int way) {
      if (!span(l, r) || way < 0 || way > 4) return NONE;
      List<Integer> list = new ArrayList<>(colours(row, l, r));
      if (way == 0) list.sort((a, b) -> Integer.compare(firstIn(l, r, a), firstIn(l, r, b)));
      if (way == 1) list.sort((a, b) -> Integer.compare(lastIn(l, r, b), lastIn(l, r, a)));
      if (way == 3) list.sort((a, b) -> Integer.compare(weights[b], weights[a]));
      if (way == 4) list.sort((a, b) -> Integer.compare(times(l, r, b), times(l, r, a)));
      return k >= 0 && k < list.size() ? list.get(k) : NONE;
    }

    private int firstIn(int l, int r, int colour) {
      for (int i = l; i <= r; i++) if (row.get(i)[0] == colour) return i;
      return NONE;
    }

    private int lastIn(int l, int r, int colour) {
      for (int i = r; i >= l; i--) if (row.get(i)[0] == colour) return i;
      return NONE;
    }

    public int absent(int l, int r, int k) {
      if (!span(l, r)) return NONE;
      List<Integer> list = new ArrayList<>();
      for (int c = 0; c < 24; c++) if (times(l, r, c) == 0) list.add(c);
      return k >= 0 && k < list.size() ? list.get(k) : NONE;
    }

    public int both(int l, int r, int from, int to, int how) {
      if (!span(l, r) || !span(from, to)) return NONE;
      Set<Integer> a = colours(row, l, r);
      Set<Integer> b = colours(row, from, to);
      if (how == 0) a.retainAll(b);
      else if (how == 1) a.removeAll(b);
      else if (how == 2) a.addAll(b);
      else return NONE;
      return a.size();
    }

    public int tally(int l, int r, int t) {
      if (!span(l, r) || t < 1) return NONE;
      int n = 0;
      for (int c = 0; c < 24; c++) if (times(l, r, c) == t) n++;
      return n;
    }

    public int major(int l, int r) {
      if (!span(l, r)) return NONE;
      for (int c = 0; c < 24; c++) if (2 * times(l, r, c) > r - l + 1) return c;
      return NONE;
    }

    public int close(int l, int r, int what) {
      if (!span(l, r)) return NONE;
      for (int d = 1; d <= r - l; d++) {
        for (int i = l; i + d <= r; i++) {
          if (row.get(i)[0] == row.get(i + d)[0]) return what == 0 ? d : what == 1 ? i : NONE;
        }
      }
      return NONE;
    }

    public int sides(int l, int r) {
      if (!span(l, r)) return NONE;
      Set<String> twos = new HashSet<>();
      for (int i = l; i < r; i++) {
        int a = row.get(i)[0];
        int b = row.get(i + 1)[0];
        if (a != b) twos.add(Math.min(a, b) + "," + Math.max(a, b));
      }
      return twos.size();
    }

    public int cover(int l, int r) {
      if (!span(l, r)) return NONE;
      Set<Integer> all = colours(row, l, r);
      for (int n = 1; n <= r - l + 1; n++) {
        boolean fine = true;
        for (int i = l; i + n - 1 <= r && fine; i++) fine = colours(row, i, i + n - 1).equals(all);
        if (fine) return n;
      }
      throw new IllegalStateException();
    }

    public int least(int l, int r, int m) {
      if (!span(l, r) || m < 1) return NONE;
      List<Integer> counts = new ArrayList<>();
      for (int c = 0; c < 24; c++) counts.add(times(l, r, c));
      counts.sort(null);
      int sum = 0;
      for (int i = 0; i < 24 - Math.min(m, 24); i++) sum += counts.get(i);
      return sum;
    }

    public int fair(int l, int r, int m) {
      if (!span(l, r) || m < 1) return NONE;
      int made = 0;
      for (int c = 0; c < 24; c++) if (times(l, r, c) > (r - l + 1) / (double) m) made |= 1 << c;
      return made;
    }

    public int alike(int l, int r) {
      if (!span(l, r)) return NONE;
      int n = 0;
      for (int i = l; i <= r; i++) {
        for (int j = i + 1; j <= r; j++) if (row.get(i)[0] == row.get(j)[0]) n++;
      }
      return n;
    }

    public int even(int l, int r) {
      if (!span(l, r)) return NONE;
      int best = 99;
      int end = NONE;
      for (int i = l; i < r; i++) {
        int by = Math.abs(count(l, i) - count(i + 1, r));
        if (by < best) {
          best = by;
          end = i;
        }
      }
      return end;
    }

    public int apart(int colour, int other, int what) {
      if (!isColour(colour) || !isColour(other) || colour == other) return NONE;
      for (int d = 1; d < row.size(); d++) {
        for (int i = 0; i + d < row.size(); i++) {
          int a = row.get(i)[0];
          int b = row.get(i + d)[0];
          if (a == colour && b == other || a == other && b == colour) {
            return what == 0 ? d : what == 1 ? i : NONE;
          }
        }
      }
      return NONE;
    }

    public int reach(int l, int k) {
      if (k < 1) return NONE;
      for (int r = l; span(l, r); r++) if (count(l, r) >= k) return r;
      return NONE;
    }

    public int reachBack(int r, int k) {
      if (k < 1) return NONE;
      for (int l = r; span(l, r); l--) if (count(l, r) >= k) return l;
      return NONE;
    }

    public int load(int l, int weight) {
      if (weight < 1) return NONE;
      for (int r = l; span(l, r); r++) if (weight(l, r) >= weight) return r;
      return NONE;
    }

    public int window(int set, int what) {
      int wanted = set & 0xFFFFFF;
      if (wanted == 0 || what < 0 || what > 2) return NONE;
      int n = 0;
      int[] shortest = null;
      for (int l = 0; l < row.size(); l++) {
        int has = 0;
        for (int r = l; r < row.size(); r++) {
          has |= 1 << row.get(r)[0];
          if ((has & wanted) == wanted) {
            n++;
            if (shortest == null || r - l < shortest[1] - shortest[0]) shortest = new int[] {l, r};
          }
        }
      }
      return what == 2 ? n : shortest == null ? NONE : shortest[what];
    }

    public int longest(int k, int what) {
      if (k < 1 || what < 0 || what > 1) return NONE;
      int[] longest = null;
      for (int l = 0; l < row.size(); l++) {
        int has = 0;
        for (int r = l; r < row.size(); r++) {
          has |= 1 << row.get(r)[0];
          if (Integer.bitCount(has) <= k
              && (longest == null || r - l > longest[1] - longest[0])) longest = new int[] {l, r};
        }
      }
      return longest == null ? NONE : longest[what];
    }

    public int unlike(int what) {
      if (what < 0 || what > 1) return NONE;
      for (int n = row.size(); n >= 1; n--) {
        for (int l = 0; l + n <= row.size(); l++) {
          if (colours(row, l, l + n - 1).size() == n) return what == 0 ? l : l + n - 1;
        }
      }
      return NONE;
    }

    public int heaviest(int n, int what) {
      if (n < 1 || n > row.size() || what < 0 || what > 1) return NONE;
      int most = NONE;
      int first = NONE;
      for (int l = 0; l + n <= row.size(); l++) {
        if (weight(l, l + n - 1) > most) {
          most = weight(l, l + n - 1);
          first = l;
        }
      }
      return what == 0 ? first : most;
    }

    public int distance(int place) {
      if (place < 0 || place >= row.size() || bond(row, place) == NONE) return NONE;
      return colours(row, find(row, bond(row, place)) + 1, place - 1).size();
    }

    /** The shelf as a list, the one met longest ago first; the misses behind it at the end. */
    private List<Integer> shelfBehind(int place, int n, int rule) {
      List<Integer> on = new ArrayList<>();
      int missed = 0;
      for (int i = 0; i <= place; i++) {
        Integer c = row.get(i)[0];
        if (!on.contains(c)) {
          missed++;
          if (on.size() == n) on.remove(rule == 0 ? on.get(0) : latestAgain(on, i));
        }
        on.remove(c);
        on.add(c);
      }
      on.add(missed);
      return on;
    }

    private Integer latestAgain(List<Integer> on, int place) {
      Integer chosen = null;
      int latest = NONE;
      for (Integer c : new TreeSet<>(on)) {
        int again = firstIn(place + 1, row.size() - 1, c);
        if (again == NONE) return c;
        if (again > latest) {
          latest = again;
          chosen = c;
        }
      }
      return chosen;
    }

    public int misses(int n, int rule) {
      if (n < 1 || n > 24 || rule < 0 || rule > 1) return NONE;
      List<Integer> on = shelfBehind(row.size() - 1, n, rule);
      return on.get(on.size() - 1);
    }

    public int shelf(int place, int n, int rule) {
      if (place < 0 || place >= row.size() || n < 1 || n > 24 || rule < 0 || rule > 1) return NONE;
      List<Integer> on = shelfBehind(place, n, rule);
      on.remove(on.size() - 1);
      return bits(new TreeSet<>(on));
    }

    public int suffices(int misses, int rule) {
      if (misses < 0 || rule < 0 || rule > 1) return NONE;
      for (int n = 1; n <= 24; n++) if (misses(n, rule) <= misses) return n;
      return NONE;
    }

    public int just(int k) {
      int n = 0;
      for (int l = 0; l < row.size(); l++) {
        int has = 0;
        for (int r = l; r < row.size(); r++) {
          has |= 1 << row.get(r)[0];
          if (Integer.bitCount(has) == k) n++;
        }
      }
      return n;
    }

    public long all() {
      long n = 0;
      for (int l = 0; l < row.size(); l++) {
        int has = 0;
        for (int r = l; r < row.size(); r++) {
          has |= 1 << row.get(r)[0];
          n += Integer.bitCount(has);
        }
      }
      return n;
    }

    public int sets(int n) {
      Set<Integer> found = new HashSet<>();
      for (int l = 0; n >= 1 && l <= row.size() - n; l++) found.add(set(l, l + n - 1));
      return found.size();
    }

    private int step(int l, int place) {
      for (int i = place - 1; i >= l; i--) if (row.get(i)[0] == row.get(place)[0]) return place - i;
      return 0;
    }

    private boolean matches(int l, int other, int length) {
      for (int i = 0; i < length; i++) {
        if (step(l, l + i) != step(other, other + i)) return false;
      }
      return true;
    }

    public int match(int l, int r, int i) {
      if (!span(l, r)) return NONE;
      List<Integer> found = new ArrayList<>();
      int n = r - l + 1;
      for (int o = 0; o + n <= row.size(); o++) if (matches(l, o, n)) found.add(o);
      if (i == NONE) return found.size();
      return i >= 0 && i < found.size() ? found.get(i) : NONE;
    }

    public int twin(int what) {
      if (what < 0 || what > 1) return NONE;
      for (int n = row.size() - 1; n >= 1; n--) {
        for (int l = 0; l + n <= row.size(); l++) {
          for (int o = 0; o + n <= row.size(); o++) {
            if (o != l && matches(l, o, n)) return what == 0 ? l : n;
          }
        }
      }
      return NONE;
    }

    public int parts(int k, int i) {
      if (k < 1) return NONE;
      int size = row.size();
      int[] fewest = new int[size + 1];
      for (int l = size - 1; l >= 0; l--) {
        fewest[l] = 999;
        for (int r = l; r < size; r++) {
          if (count(l, r) <= k) fewest[l] = Math.min(fewest[l], 1 + fewest[r + 1]);
        }
      }
      if (i == NONE) return fewest[0];
      int l = 0;
      for (int part = 0; l < size; part++) {
        int r = l;
        while (r + 1 < size && count(l, r + 1) <= k) r++;
        if (part == i) return r;
        l = r + 1;
      }
      return NONE;
    }

    public int best(int m, int i) {
      if (m < 1 || m > 8 || m > row.size()) return NONE;
      Best found = new Best();
      if (row.size() <= 12) {
        tryAll(found, m, 0, new ArrayList<>(), 0);
      } else {
        fromTable(found, m);
      }
      if (i == NONE) return found.worth;
      return i >= 0 && i < m ? found.ends.get(i) : NONE;
    }

    private static final class Best {
      private int worth = NONE;
      private List<Integer> ends = new ArrayList<>();
    }

    /** All partings in the order of their parts' lengths: only a better one takes the place. */
    private void tryAll(Best found, int m, int l, List<Integer> ends, int worth) {
      if (m == 0) {
        if (l == row.size() && worth > found.worth) {
          found.worth = worth;
          found.ends = new ArrayList<>(ends);
        }
        return;
      }
      for (int r = l; r < row.size(); r++) {
        ends.add(r);
        tryAll(found, m - 1, r + 1, ends, worth + count(l, r));
        ends.remove(ends.size() - 1);
      }
    }

    private void fromTable(Best found, int m) {
      int size = row.size();
      int[][] counts = new int[size][size];
      for (int l = 0; l < size; l++) {
        int has = 0;
        for (int r = l; r < size; r++) {
          has |= 1 << row.get(r)[0];
          counts[l][r] = Integer.bitCount(has);
        }
      }
      int[][] most = new int[m + 1][size + 1];
      for (int p = 0; p <= m; p++) {
        for (int l = size; l >= 0; l--) {
          most[p][l] = p == 0 && l == size ? 0 : -100000;
          for (int r = l; p > 0 && r < size; r++) {
            most[p][l] = Math.max(most[p][l], counts[l][r] + most[p - 1][r + 1]);
          }
        }
      }
      found.worth = most[m][0];
      int l = 0;
      for (int p = m; p > 0; p--) {
        int r = l;
        while (counts[l][r] + most[p - 1][r + 1] != most[p][l]) r++;
        found.ends.add(r);
        l = r + 1;
      }
    }

    private List<int[]> behind(int edit) {
      int latest = rows.size() - 1;
      return edit < 0 || edit > latest || latest - edit >= 40 ? null : rows.get(edit);
    }

    public int was(int edit, int place, int what) {
      List<int[]> then = behind(edit);
      if (then == null) return NONE;
      if (place == NONE) return then.size();
      if (place < 0 || place >= then.size()) return NONE;
      if (what == 0 || what == 1) return then.get(place)[what];
      return what == 2 ? bond(then, place) : NONE;
    }

    public int counted(int edit, int l, int r) {
      List<int[]> then = behind(edit);
      return then != null && span(then, l, r) ? colours(then, l, r).size() : NONE;
    }

    public int touched(int edit) {
      return edit >= 1 && behind(edit) != null ? touches.get(edit) : NONE;
    }

    public int since(int name) {
      int now = find(row, name);
      if (now == NONE) return NONE;
      int least = rows.size() - 1;
      while (behind(least - 1) != null) {
        List<int[]> then = behind(least - 1);
        int place = find(then, name);
        if (place == NONE || bond(then, place) != bond(row, now)) break;
        least--;
      }
      return least;
    }

    public int changed(int edit, int what) {
      List<int[]> then = behind(edit);
      if (then == null || what < 0 || what > 3) return NONE;
      int n = 0;
      for (int i = 0; i < then.size(); i++) {
        int now = find(row, then.get(i)[1]);
        if (now == NONE) continue;
        if (what == 0) n++;
        if (what == 1 && now != i) n++;
        if (what == 2 && row.get(now)[0] != then.get(i)[0]) n++;
        if (what == 3 && bond(row, now) != bond(then, i)) n++;
      }
      return n;
    }

    private int askIn(List<int[]> in, int edit, int name, int other) {
      if (in == null || find(in, name) < 0 || find(in, other) < 0 || asked.size() == 30) return NONE;
      asked.add(new int[] {NONE, NONE, name, other, edit});
      return asked.size() - 1;
    }

    public int ask(int name, int other) {
      return askIn(row, NONE, name, other);
    }

    public int askOf(int edit, int name, int other) {
      return askIn(behind(edit), edit, name, other);
    }

    public int solve() {
      int n = 0;
      for (int[] one : asked) {
        List<int[]> in = one[4] == NONE ? row : behind(one[4]);
        int a = in == null ? NONE : find(in, one[2]);
        int b = in == null ? NONE : find(in, one[3]);
        one[0] = NONE;
        one[1] = NONE;
        if (a != NONE && b != NONE) {
          Set<Integer> has = colours(in, Math.min(a, b), Math.max(a, b));
          one[0] = has.size();
          one[1] = weightOf(has);
          n++;
        }
      }
      return n;
    }

    public int asked(int number, int what) {
      if (number < 0 || number >= asked.size() || what < 0 || what > 4) return NONE;
      return asked.get(number)[what];
    }

    public int forget() {
      int n = asked.size();
      asked.clear();
      return n;
    }
  }

  /** One run: a new object of each, and the same calls on both. */
  private static final class Run {
    private final Random random;
    private final int colours;
    private final int places;
    private final int number;
    private final SpanColours real = new SpanColours();
    private final Model model = new Model();
    private final List<String> told = new ArrayList<>();

    Run(int number, int places, int colours) {
      this.number = number;
      this.places = places;
      this.colours = colours;
      this.random = new Random(number);
    }

    private int below(int n) {
      return n <= 0 ? 0 : random.nextInt(n);
    }

    private int odd() {
      int[] odd = {-1, -2, 24, 25, 159, 160, 161, 9999, 10000, Integer.MAX_VALUE, Integer.MIN_VALUE,
        model.row.size(), model.row.size() + 1, model.rows.size(), model.rows.size() - 41};
      return odd[below(odd.length)];
    }

    private void argument(char kind, List<Integer> to) {
      int size = model.row.size();
      if (kind == 'S') {
        int a = below(size);
        int b = random.nextBoolean() ? below(size) : Math.min(a + below(6), size - 1);
        boolean off = below(25) == 0;
        to.add(off ? odd() : Math.min(a, b));
        to.add(off && random.nextBoolean() ? odd() : Math.max(a, b));
        return;
      }
      to.add(below(20) == 0 ? odd() : usual(kind, size));
    }

    private int usual(char kind, int size) {
      int latest = model.rows.size() - 1;
      switch (kind) {
        case 'p': return below(size);
        case 'g': return below(size + 1);
        case 'c': return below(colours);
        case 'n': return below(size + 1);
        case 's': return below(10000);
        case 'N': return 1 + below(Math.max(1, places - size));
        case 'd': return 1 + below(colours);
        case 'W': return below(3) == 0 ? below(3) : below(1000);
        case 'w': return below(5);
        case 'm': return size > 0 && below(6) > 0 ? model.row.get(below(size))[1] : below(model.named);
        case 'M': return model.named == 0 ? 0 : Math.max(0, model.named - 1 - below(size + 10));
        case 'k': return below(3) == 0 ? below(2 * colours) : below(6);
        case 'L': return below(3) == 0 ? below(9000) : below(900);
        case 'b': return below(4) == 0 ? random.nextInt() : 1 << below(colours) | 1 << below(colours);
        case 'h': return 1 + below(Math.min(24, colours + 2));
        case 'v': return below(2);
        case 'i': return below(10) - 1;
        case 't': return 1 + below(9);
        case 'e': return Math.max(0, latest - below(44));
        case 'q': return below(model.asked.size() + 1);
        default: throw new IllegalStateException();
      }
    }

    private boolean sizeAllows(String name) {
      return model.row.size() < places
          || !(name.equals("insert") || name.equals("copy") || name.equals("draw")) || places >= 160;
    }

    void call(String spec) throws Exception {
      String name = spec.substring(0, spec.indexOf(' '));
      if (!sizeAllows(name)) {
        name = "cut";
        spec = "cut S";
      }
      if (name.equals("twin") && model.row.size() > 60) return;
      if (name.equals("forget") && below(4) > 0) return;
      List<Integer> arguments = new ArrayList<>();
      for (char kind : spec.substring(spec.indexOf(' ') + 1).toCharArray()) argument(kind, arguments);
      Class<?>[] types = new Class<?>[arguments.size()];
      java.util.Arrays.fill(types, int.class);
      Method of = SpanColours.class.getMethod(name, types);
      Method due = Model.class.getDeclaredMethod(name, types);
      due.setAccessible(true);
      long got = ((Number) of.invoke(real, arguments.toArray())).longValue();
      long want = ((Number) due.invoke(model, arguments.toArray())).longValue();
      calls++;
      told.add(name + arguments + " = " + want);
      if (got != want) {
        wrong++;
        System.out.println("run " + number + ": " + told.get(told.size() - 1) + " is due, got " + got);
      }
    }
  }

  private static void go(int number, int places, int colours, int editsIn100) throws Exception {
    Run run = new Run(number, places, colours);
    run.call("draw sNd");
    for (int i = 0; i < 511 && wrong < 20; i++) {
      String[] from = run.below(100) < editsIn100 ? EDITS : QUESTIONS;
      run.call(from[run.below(from.length)]);
    }
  }

  /** Names run out: rows drawn and cut till none is left, then what still can be. */
  private static void exhaustNames(int number) throws Exception {
    Run run = new Run(number, 160, 5);
    for (int i = 0; i < 70 && wrong < 20; i++) {
      run.real.draw(i, 150, 5);
      run.model.draw(i, 150, 5);
      run.call("about w");
      run.call("ask mm");
      run.call("since m");
      if (i < 66) {
        run.real.cut(0, 149);
        run.model.cut(0, 149);
      }
    }
    for (int i = 0; i < 200 && wrong < 20; i++) {
      run.call(EDITS[run.below(EDITS.length)]);
      run.call(QUESTIONS[run.below(QUESTIONS.length)]);
    }
  }

  public static void main(String[] args) throws Exception {
    for (int i = 0; i < 150; i++) {
      go(i, 12, 1 + i % 6, 30);
      go(1000 + i, 30, 2 + i % 23, 25);
    }
    for (int i = 0; i < 40; i++) {
      go(2000 + i, 160, 2 + i % 23, 25);
      go(3000 + i, 60, 2 + i % 23, 60);
    }
    exhaustNames(4000);
    exhaustNames(4001);
    System.out.println(calls + " calls against the model, " + wrong + " not as due");
    if (wrong != 0) System.exit(1);
  }
}
