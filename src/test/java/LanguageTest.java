import java.io.IOException;
import java.io.PrintWriter;
import java.io.StringWriter;
import java.lang.reflect.Constructor;
import java.lang.reflect.Field;
import java.lang.reflect.Method;
import java.lang.reflect.Modifier;
import java.nio.charset.StandardCharsets;
import java.nio.file.Files;
import java.nio.file.Path;
import java.util.ArrayList;
import java.util.Arrays;
import java.util.HashMap;
import java.util.List;
import java.util.Map;
import java.util.Optional;
import java.util.Set;
import java.util.TreeMap;
import java.util.TreeSet;
import java.util.spi.ToolProvider;
import java.util.regex.Matcher;
import java.util.regex.Pattern;

/** The rules of LANGUAGE.md that can be seen from the class or from its source (run in the project's folder). */
public final class LanguageTest {
  private static int wrong = 0;

  private static void rule(int number, boolean holds, String what) {
    if (!holds) {
      wrong++;
      System.out.println("rule " + number + ": " + what);
    }
  }

  public static void main(String[] args) throws IOException {
    String source = Files.readString(Path.of("src/main/java/TrackVotes.java"), StandardCharsets.UTF_8);
    String document = Files.readString(Path.of("../shared/DOC.md"), StandardCharsets.UTF_8);
    face(document);
    classes();
    words(source);
    methods(source);
    depths();
    System.out.println(wrong == 0 ? "LanguageTest: the rules are kept" : "LanguageTest: " + wrong + " breaches");
    if (wrong != 0) System.exit(1);
  }

  private static List<Class<?>> all() {
    List<Class<?>> all = new ArrayList<>(Arrays.asList(TrackVotes.class.getDeclaredClasses()));
    all.add(TrackVotes.class);
    return all;
  }

  private static String told(Method m) {
    StringBuilder out = new StringBuilder(m.getReturnType().getSimpleName()).append(' ').append(m.getName()).append('(');
    for (Class<?> p : m.getParameterTypes()) out.append(p.getSimpleName()).append(';');
    return out.append(')').toString();
  }

  /** Rule 1: the face is the document's, no more and no less. */
  private static void face(String document) {
    Set<String> due = new TreeSet<>();
    Set<String> names = new TreeSet<>();
    Matcher m = Pattern.compile("^    public (\\w+) (\\w+)\\((.*)\\);$", Pattern.MULTILINE).matcher(document);
    while (m.find()) {
      StringBuilder out = new StringBuilder(m.group(1)).append(' ').append(m.group(2)).append('(');
      if (!m.group(3).isEmpty()) for (String p : m.group(3).split(", ")) out.append(p.split(" ")[0]).append(';');
      due.add(out.append(')').toString());
      names.add(m.group(2));
    }
    rule(1, due.size() == 42, "the document's face has " + due.size() + " methods");
    Set<String> got = new TreeSet<>();
    for (Class<?> c : all()) {
      for (Method method : c.getDeclaredMethods()) {
        int mods = method.getModifiers();
        if (c == TrackVotes.class && Modifier.isPublic(mods)) got.add(told(method));
        else rule(1, !names.contains(method.getName()), method + " bears a public name");
        if (c == TrackVotes.class) rule(1, Modifier.isPublic(mods) || Modifier.isPrivate(mods), method + " is open");
      }
    }
    rule(1, got.equals(due), "the face is " + got + ", due is " + due);
    for (Field f : TrackVotes.class.getDeclaredFields()) {
      boolean none = f.getName().equals("NONE") && Modifier.isPublic(f.getModifiers());
      rule(1, none || Modifier.isPrivate(f.getModifiers()), f + " is open");
    }
    Constructor<?>[] made = TrackVotes.class.getDeclaredConstructors();
    rule(1, made.length == 1 && Modifier.isPublic(made[0].getModifiers()) && made[0].getParameterCount() == 0, "the constructor");
    rule(1, Modifier.isFinal(TrackVotes.class.getModifiers()), "the class is final");
  }

  /** Rules 2, 5 and 11. */
  private static void classes() {
    List<Class<?>> all = all();
    rule(11, all.size() <= 12, all.size() + " classes");
    for (Class<?> c : all) {
      if (c != TrackVotes.class) rule(2, Modifier.isStatic(c.getModifiers()), c + " is static");
      int fields = 0;
      for (Field f : c.getDeclaredFields()) {
        if (!Modifier.isStatic(f.getModifiers())) {
          fields++;
          continue;
        }
        rule(5, Modifier.isFinal(f.getModifiers()), f + " is final");
        boolean plain = Set.of("int", "long", "boolean", "char", "String", "int[]", "long[]", "char[]", "byte[]").contains(f.getType().getSimpleName());
        rule(5, plain, f + " is of a type that may be static");
      }
      rule(11, fields <= 20, c + " has " + fields + " fields");
      for (Method m : c.getDeclaredMethods()) rule(11, m.getParameterCount() <= 7, m + " has too many parameters");
    }
  }

  /** Rules 4, 6 and 13: words that may not stand there. */
  private static void words(String source) {
    String code = source.replaceAll("(?s)/\\*.*?\\*/", " ").replaceAll("//[^\n]*", " ").replaceAll("\"[^\"\n]*\"", "\"\"").replaceAll("'[^'\n]+'", "' '");
    String[] banned = {"throw", "throws", "try", "catch", "finally", "synchronized", "assert", "import", "package", "Object",
        "Thread", "hashCode", "toString", "volatile", "native", "var", "goto", "double", "float"};
    for (String word : banned) rule(6, !Pattern.compile("\\b" + word + "\\b").matcher(code).find(), "the word " + word);
    rule(2, !code.contains("->") && !code.contains("::"), "a lambda or a method reference");
    rule(6, !code.contains("@"), "an annotation");
    Matcher m = Pattern.compile("\\b(System|Math|Integer|Long|Arrays)\\.(\\w+)").matcher(code);
    Set<String> may = Set.of("System.arraycopy", "Math.floorDiv", "Math.abs", "Math.max", "Math.min", "Integer.bitCount");
    while (m.find()) rule(4, may.contains(m.group()), m.group());
    for (int i = 0; i < source.length(); i++) {
      if (source.charAt(i) > 126) rule(4, false, "a sign beyond 126 at " + i);
    }
  }

  /** Rule 11: methods stay short. */
  private static void methods(String source) {
    String[] lines = source.split("\n");
    for (int i = 0; i < lines.length; i++) {
      Matcher m = Pattern.compile("^( {4}| {8})(?=\\w)(?!switch|for|while|if|else)[\\w\\[\\]<> ]+\\(.*\\{$").matcher(lines[i]);
      if (!m.find()) continue;
      int end = i;
      while (end < lines.length && !lines[end].equals(m.group(1) + "}")) end++;
      rule(11, end - i < 60, "the method at line " + (i + 1) + " has " + (end - i) + " lines");
    }
  }

  /** Rule 11: calls that are no recursion go at most eight deep, the library's counted. */
  private static void depths() {
    Map<String, Set<String>> calls = calls();
    Map<String, Integer> depth = new HashMap<>();
    // Each round lets the calls be known one level deeper; a cycle weighs nothing, so it settles.
    for (int round = 0; round < 40; round++) {
      for (String method : calls.keySet()) {
        int deepest = 0;
        for (String called : calls.get(method)) deepest = Math.max(deepest, depth.getOrDefault(called, 1));
        depth.put(method, (reaches(calls, method, method) ? 0 : 1) + deepest);
      }
    }
    for (String method : calls.keySet()) rule(11, depth.get(method) <= 8, method + " calls " + depth.get(method) + " deep");
  }

  private static boolean reaches(Map<String, Set<String>> calls, String from, String to) {
    Set<String> seen = new TreeSet<>();
    List<String> next = new ArrayList<>(List.of(from));
    while (!next.isEmpty()) {
      for (String called : calls.getOrDefault(next.remove(next.size() - 1), Set.of())) {
        if (called.equals(to)) return true;
        if (seen.add(called)) next.add(called);
      }
    }
    return false;
  }

  /** Who calls whom, as javap tells it; nothing where there is no javap. */
  private static Map<String, Set<String>> calls() {
    Map<String, Set<String>> calls = new TreeMap<>();
    Optional<ToolProvider> javap = ToolProvider.findFirst("javap");
    if (javap.isEmpty()) return calls;
    for (Class<?> c : all()) {
      StringWriter out = new StringWriter();
      javap.get().run(new PrintWriter(out), new PrintWriter(out), "-c", "-p", "-cp", System.getProperty("java.class.path"), c.getName());
      String method = "";
      for (String line : out.toString().split("\n")) {
        Matcher head = Pattern.compile("^  \\S.*?([\\w$]+)\\(.*\\);$").matcher(line);
        Matcher call = Pattern.compile("// (?:Interface)?Method (?:([\\w/$]+)\\.)?\"?(<?\\w+>?)\"?:").matcher(line);
        if (head.find()) {
          method = c.getName() + "." + (head.group(1).equals(c.getName()) ? "<init>" : head.group(1));
          calls.put(method, new TreeSet<>());
        } else if (call.find() && calls.containsKey(method)) {
          calls.get(method).add((call.group(1) == null ? c.getName() : call.group(1)) + "." + call.group(2));
        }
      }
    }
    rule(11, calls.size() > 100, "javap tells of " + calls.size() + " methods alone");
    return calls;
  }
}
