import java.lang.reflect.Array;
import java.lang.reflect.Constructor;
import java.lang.reflect.Field;
import java.lang.reflect.Method;
import java.lang.reflect.Modifier;
import java.nio.file.Files;
import java.nio.file.Path;
import java.util.HashSet;
import java.util.IdentityHashMap;
import java.util.List;
import java.util.Random;
import java.util.Set;
import java.util.TreeSet;
import java.util.regex.Matcher;
import java.util.regex.Pattern;

/** The rules for the class as far as a program can see them: its face, its words, its room. */
public final class LanguageTest {
  private static final String FACE =
      "put2 insert2 cut2 paint3 turn2 shift3 sort2 swap4 copy3 merge2 exchange2 draw3 weigh2 at2 "
      + "place1 colour2 nth2 about1 count2 weight2 set2 times3 often3 report4 kth4 absent3 both5 "
      + "tally3 major2 close3 sides2 cover2 least3 fair3 alike2 even2 apart3 reach2 reachBack2 "
      + "load2 window2 longest2 unlike1 heaviest2 distance1 misses2 shelf3 suffices2 just1 all0 "
      + "sets1 match3 twin1 parts2 best2 was3 counted3 touched1 since1 changed2 ask2 askOf3 "
      + "solve0 asked2 forget0";

  private static int wrong = 0;

  private static void due(boolean holds, String what) {
    if (!holds) {
      wrong++;
      System.out.println("does not hold: " + what);
    }
  }

  private static void face() throws Exception {
    Class<?> of = SpanColours.class;
    due(Modifier.isFinal(of.getModifiers()) && Modifier.isPublic(of.getModifiers()), "public final");
    Set<String> due = new TreeSet<>(List.of(FACE.split(" ")));
    Set<String> got = new TreeSet<>();
    Set<String> names = new HashSet<>();
    for (Method m : of.getDeclaredMethods()) {
      if (Modifier.isPublic(m.getModifiers())) {
        got.add(m.getName() + m.getParameterCount());
        names.add(m.getName());
        Class<?> answer = m.getName().equals("all") ? long.class : int.class;
        due(m.getReturnType() == answer, "the answer's type of " + m);
      } else {
        due(Modifier.isPrivate(m.getModifiers()), "private: " + m);
      }
    }
    due(due.equals(got), "the face is " + due + ", not " + got);
    for (Field f : of.getDeclaredFields()) {
      boolean isNone = f.getName().equals("NONE") && Modifier.isPublic(f.getModifiers());
      due(isNone || Modifier.isPrivate(f.getModifiers()), "private: " + f);
    }
    Constructor<?>[] makers = of.getDeclaredConstructors();
    due(makers.length == 1 && Modifier.isPublic(makers[0].getModifiers()), "one public constructor");
    due(of.getDeclaredClasses().length + 1 <= 12, "twelve classes at most");
    inside(of, names);
    for (Class<?> c : of.getDeclaredClasses()) {
      due(Modifier.isStatic(c.getModifiers()) && !Modifier.isPublic(c.getModifiers()), "static: " + c);
      inside(c, new HashSet<>());
      for (Method m : c.getDeclaredMethods()) {
        due(!names.contains(m.getName()), "a name of the face in " + m);
      }
    }
  }

  private static void inside(Class<?> c, Set<String> face) {
    int fields = 0;
    for (Field f : c.getDeclaredFields()) {
      if (Modifier.isStatic(f.getModifiers())) {
        due(Modifier.isFinal(f.getModifiers()), "final: " + f);
      } else {
        fields++;
      }
    }
    due(fields <= 20, "twenty fields at most in " + c);
    for (Method m : c.getDeclaredMethods()) {
      due(m.getParameterCount() <= 7, "seven parameters at most: " + m);
      due(!Modifier.isPrivate(m.getModifiers()) || !face.contains(m.getName()), "name of " + m);
    }
  }

  private static void words() throws Exception {
    String source = Files.readString(Path.of("src/main/java/SpanColours.java"));
    String code = source.replaceAll("(?s)/\\*.*?\\*/", "").replaceAll("//[^\n]*", "");
    String[] banned = {
      "\\b(throw|throws|try|catch|finally|synchronized|assert|package|double|float)\\b", "->", "::",
      "Exact\\b", "\\bSystem\\.(?!arraycopy\\b)", "\\b(Random|Thread|File|Runtime|Object)\\b",
      "\\bstatic\\s*\\{", "@\\w+", "\"", "\\bimport (?!java\\.util\\.Arrays;)",
      "\\bArrays\\.(?!(copyOf|copyOfRange|fill)\\b)", "\\bMath\\.(?!(max|min|abs|floorMod)\\b)"};
    for (String words : banned) {
      Matcher found = Pattern.compile(words).matcher(code);
      due(!found.find(), "without " + words);
    }
    String[] lines = source.split("\n");
    int begun = 0;
    for (int i = 0; i < lines.length; i++) {
      due(lines[i].length() <= 100, "line " + (i + 1) + " is short");
      if (lines[i].matches("( {2}| {4})[a-z].*\\) \\{")) begun = i;
      if (lines[i].matches("( {2}| {4})\\}")) due(i - begun <= 60 || begun == 0, "line " + begun);
    }
  }

  private static void neverThrows() {
    int[] odd = {Integer.MIN_VALUE, Integer.MIN_VALUE + 1, -161, -24, -2, -1, 0, 1, 2, 3, 4, 5, 7, 8,
      9, 23, 24, 25, 29, 30, 39, 40, 41, 80, 158, 159, 160, 161, 999, 1000, 9999, 10000, 1 << 23,
      1 << 24, Integer.MAX_VALUE - 1, Integer.MAX_VALUE};
    Random random = new Random(7);
    Method[] all = SpanColours.class.getDeclaredMethods();
    java.util.Arrays.sort(all, (a, b) -> a.getName().compareTo(b.getName()));
    for (int run = 0; run < 60; run++) {
      SpanColours x = new SpanColours();
      for (int i = 0; i < 700; i++) {
        Method m = all[random.nextInt(all.length)];
        if (!Modifier.isPublic(m.getModifiers())) continue;
        if (run % 3 > 0 && x.about(0) < 40 && random.nextInt(4) == 0) x.draw(i, 1 + i % 120, 1 + i % 24);
        Object[] arguments = new Object[m.getParameterCount()];
        for (int a = 0; a < arguments.length; a++) arguments[a] = odd[random.nextInt(odd.length)];
        try {
          m.invoke(x, arguments);
        } catch (ReflectiveOperationException thrown) {
          due(false, m + " of " + java.util.Arrays.toString(arguments) + " threw " + thrown.getCause());
        }
      }
    }
  }

  /** Objects and elements that an object holds behind a run with all its edits. */
  private static void room() throws Exception {
    SpanColours x = new SpanColours();
    long[] small = new long[2];
    hold(x, small, new IdentityHashMap<>());
    for (int i = 0; i < 256; i++) {
      x.draw(i, 160, 24);
      x.cut(0, 159);
    }
    long[] large = new long[2];
    hold(x, large, new IdentityHashMap<>());
    System.out.println("a new object holds " + small[0] + " objects, " + small[1]
        + " fields and elements; with all edits " + large[0] + ", " + large[1]);
    due(small[0] < 100 && small[1] < 5000, "a new object is small");
    due(large[0] < 500 && large[1] < 30000, "an object with all edits is small");
  }

  private static void hold(Object o, long[] sum, IdentityHashMap<Object, Boolean> seen)
      throws Exception {
    if (o == null || seen.put(o, true) != null) return;
    sum[0]++;
    if (o.getClass().isArray()) {
      sum[1] += Array.getLength(o);
      for (int i = 0; i < Array.getLength(o) && o instanceof Object[]; i++) {
        hold(Array.get(o, i), sum, seen);
      }
      return;
    }
    for (Field f : o.getClass().getDeclaredFields()) {
      if (Modifier.isStatic(f.getModifiers())) continue;
      sum[1]++;
      f.setAccessible(true);
      if (!f.getType().isPrimitive()) hold(f.get(o), sum, seen);
    }
  }

  public static void main(String[] args) throws Exception {
    face();
    words();
    neverThrows();
    room();
    System.out.println(wrong == 0 ? "the rules hold" : wrong + " rules do not hold");
    if (wrong != 0) System.exit(1);
  }
}
