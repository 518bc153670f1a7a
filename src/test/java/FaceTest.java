import java.lang.reflect.Constructor;
import java.lang.reflect.Field;
import java.lang.reflect.Method;
import java.lang.reflect.Modifier;
import java.nio.file.Files;
import java.nio.file.Path;
import java.util.ArrayList;
import java.util.Arrays;
import java.util.List;
import java.util.Map;
import java.util.Set;
import java.util.TreeMap;
import java.util.TreeSet;
import java.util.regex.Matcher;
import java.util.regex.Pattern;

/** The class has the document's face and no other, and its source keeps to the rules that can be seen in it. */
public final class FaceTest {
  private static final String FACE =
      "feed(long) end(int) text() fault() rule(int) one(int,int) frontier(int,int) load(int) law(int) err(int,int) price(int,int) "
      + "body(int,int) book(int,int) add(int) drop(int) day(int,int) cross(int,int,int) may(int) room(int,int) season(int,int,int) "
      + "best(int,int) share(int,int) span(int,int,int) goods(int,int,int,int,int) see(int,int) forget(int) whose(int) "
      + "probe(int,int,int) clear(int) errs(int) drift(int,int,int,int) keep(int) back(int) sheet(int,int,int) lay(int,int,int) "
      + "read(int,int,int,int) torn() count(int)";
  private static int wrong;

  private static void due(boolean holds, String what) {
    if (!holds) {
      wrong++;
      System.out.println(what);
    }
  }

  public static void main(String[] args) throws Exception {
    face();
    insides();
    source(Files.readString(Path.of("src/main/java/WeighedSelf.java")));
    System.out.println(wrong == 0 ? "the face is the document's" : wrong + " faults of the face");
    if (wrong != 0) System.exit(1);
  }

  private static void face() throws Exception {
    Class<?> c = WeighedSelf.class;
    due(Modifier.isPublic(c.getModifiers()) && Modifier.isFinal(c.getModifiers()), "the class is public and final");
    Set<String> methods = new TreeSet<>(), hidden = new TreeSet<>(), names = new TreeSet<>();
    for (Method m : c.getDeclaredMethods()) {
      if (Modifier.isPrivate(m.getModifiers()) || m.isSynthetic()) {
        hidden.add(m.getName());
      } else {
        due(m.getReturnType() == int.class && Modifier.isPublic(m.getModifiers()), m + " is public and answers an int");
        names.add(m.getName());
        methods.add(m.getName() + Arrays.toString(m.getParameterTypes()).replace("[", "(").replace("]", ")").replace(" ", ""));
      }
    }
    due(methods.equals(new TreeSet<>(List.of(FACE.split(" ")))), "the methods are " + methods);
    hidden.retainAll(names);
    due(hidden.isEmpty(), "private methods bear public names: " + hidden);
    Constructor<?>[] made = c.getDeclaredConstructors();
    due(made.length == 1 && Modifier.isPublic(made[0].getModifiers()) && made[0].getParameterCount() == 0, "one constructor");
    Set<String> constants = new TreeSet<>();
    for (Field f : c.getDeclaredFields()) {
      if (!Modifier.isPrivate(f.getModifiers())) constants.add(f.getName() + f.getInt(null));
    }
    due(constants.equals(new TreeSet<>(List.of("BAD-1", "STATE-2", "FULL-3", "NONE-4"))), "the constants are " + constants);
  }

  private static void insides() {
    Class<?>[] inside = WeighedSelf.class.getDeclaredClasses();
    due(inside.length + 1 <= 12, "too many classes");
    for (Class<?> c : inside) {
      due(Modifier.isStatic(c.getModifiers()) && !Modifier.isPublic(c.getModifiers()) && !Modifier.isProtected(c.getModifiers()), c + " is static");
      fields(c);
      for (Method m : c.getDeclaredMethods()) {
        due(m.getParameterCount() <= 7, m + " takes too much");
        due(!FACE.matches("(.* )?" + m.getName() + "\\(.*"), m + " bears a name of the face");
      }
    }
    fields(WeighedSelf.class);
  }

  private static void fields(Class<?> c) {
    int many = 0;
    for (Field f : c.getDeclaredFields()) {
      if (Modifier.isStatic(f.getModifiers())) due(Modifier.isFinal(f.getModifiers()), f + " is final");
      else many++;
    }
    due(many <= 20, c + " has too many fields");
  }

  private static void source(String raw) {
    String text = raw.replaceAll("(?s)/\\*.*?\\*/", " ").replaceAll("//[^\n]*", " ");
    String code = text.replaceAll("\"[^\"\n]*\"", "\"\"");
    String[] never = {
      "\\bthrow\\b", "\\bthrows\\b", "\\btry\\b", "\\bcatch\\b", "\\bsynchronized\\b", "\\bassert\\b", "->", "::", "\\bpackage\\b",
      "\\bprotected\\b", "Exact\\b", "\\bSystem\\.(?!arraycopy)", "\\bRandom\\b", "\\bequals\\(", "\\bhashCode\\b", "\\btoString\\b",
      "while \\(true\\)", "for \\(;;\\)", "static \\{", "\"\"\\s*\\+", "\\+\\s*\"\""};
    for (String word : never) {
      Matcher m = Pattern.compile(word).matcher(code);
      due(!m.find(), "the source has " + word);
    }
    Matcher imports = Pattern.compile("import ([^;]*);").matcher(code);
    while (imports.find()) due(Set.of("java.util.Arrays", "java.util.ArrayList", "java.util.List").contains(imports.group(1)), imports.group());
    for (char ch : raw.toCharArray()) due(ch < 128, "a sign past 127 in the source");
    due(longestMethod(code) <= 60, "a method is too long: " + longestMethod(code));
    callsAreShallow(code);
  }

  /** Rule 11: calls go at most eight deep, one that comes again (a recursion) counted once; the names tell who calls whom. */
  private static void callsAreShallow(String code) {
    Map<String, Set<String>> calls = new TreeMap<>();
    Matcher methods = Pattern.compile("(?ms)^( {4}| {8})(?=\\S)[\\w\\[\\] ]+ (\\w+)\\([^()]*\\) \\{$(.*?)^\\1\\}$").matcher(code);
    while (methods.find()) {
      Set<String> called = calls.computeIfAbsent(methods.group(2), name -> new TreeSet<>());
      Matcher names = Pattern.compile("(?<!new )\\b(\\w+)\\(").matcher(methods.group(3));
      while (names.find()) called.add(names.group(1));
    }
    for (String name : calls.keySet()) {
      List<String> chain = longestChain(name, calls, Set.of());
      due(chain.size() <= 8, "calls go too deep: " + chain);
    }
    due(calls.size() > 80 && longestChain("text", calls, Set.of()).size() > 5, "the calls of the source were not found: " + calls);
  }

  private static List<String> longestChain(String name, Map<String, Set<String>> calls, Set<String> open) {
    Set<String> openThen = new TreeSet<>(open);
    openThen.add(name);
    List<String> longest = List.of();
    for (String next : calls.get(name)) {
      if (!calls.containsKey(next) || openThen.contains(next)) continue;
      List<String> chain = longestChain(next, calls, openThen);
      if (chain.size() > longest.size()) longest = chain;
    }
    List<String> whole = new ArrayList<>(List.of(name));
    whole.addAll(longest);
    return whole;
  }

  /** The most lines between an opening brace of a method and its end, by the indents of this source. */
  private static int longestMethod(String code) {
    int longest = 0, begun = -1;
    String closing = null;
    String[] lines = code.split("\n");
    for (int i = 0; i < lines.length; i++) {
      Matcher m = Pattern.compile("^( {4}| {8})\\S.*\\) \\{$").matcher(lines[i]);
      if (closing == null && m.matches()) {
        closing = m.group(1) + "}";
        begun = i;
      } else if (lines[i].equals(closing)) {
        longest = Math.max(longest, i - begun + 1);
        closing = null;
      }
    }
    return longest;
  }
}
