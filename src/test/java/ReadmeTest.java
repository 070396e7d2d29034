import java.io.IOException;
import java.lang.reflect.Method;
import java.lang.reflect.Modifier;
import java.nio.charset.StandardCharsets;
import java.nio.file.Files;
import java.nio.file.Path;
import java.util.Set;
import java.util.TreeSet;
import java.util.regex.Matcher;
import java.util.regex.Pattern;

/** README.md says what is so: its example is run, its table has the whole face (run in the project's folder). */
public final class ReadmeTest {
  private static int wrong = 0;

  private static void fail(String what) {
    wrong++;
    System.out.println("README.md: " + what);
  }

  public static void main(String[] args) throws IOException, ReflectiveOperationException {
    String readme = Files.readString(Path.of("README.md"), StandardCharsets.UTF_8);
    int run = example(readme);
    if (run < 20) fail("only " + run + " calls of its example were run");
    table(readme);
    System.out.println(wrong == 0 ? "ReadmeTest: " + run + " calls answer as it says" : "ReadmeTest: " + wrong + " wrong");
    if (wrong != 0) System.exit(1);
  }

  /** Each line x.call(..); // answer .. of the java block. */
  private static int example(String readme) throws ReflectiveOperationException {
    TrackVotes x = new TrackVotes();
    Matcher block = Pattern.compile("(?s)```java\n(.*?)```").matcher(readme);
    if (!block.find()) return 0;
    int run = 0;
    Matcher line = Pattern.compile("(?m)^x\\.(\\w+)\\((.*?)\\);\\s*// (-?\\d+)").matcher(block.group(1));
    while (line.find()) {
      String got = call(x, line.group(1), line.group(2));
      if (!got.equals(line.group(3))) fail(line.group() + " .. answered " + got);
      run++;
    }
    long told = block.group(1).lines().filter(l -> l.startsWith("x.")).count();
    if (told != run) fail(told - run + " lines of its example tell no answer");
    return run;
  }

  private static String call(TrackVotes x, String name, String numbers) throws ReflectiveOperationException {
    String[] parts = numbers.isEmpty() ? new String[0] : numbers.split(", ");
    Object[] given = new Object[parts.length];
    for (int i = 0; i < parts.length; i++) given[i] = Integer.decode(parts[i]);
    for (Method m : TrackVotes.class.getDeclaredMethods()) {
      boolean open = Modifier.isPublic(m.getModifiers());
      if (open && m.getName().equals(name) && m.getParameterCount() == given.length) return String.valueOf(m.invoke(x, given));
    }
    return "no such call";
  }

  private static void table(String readme) {
    Set<String> told = new TreeSet<>();
    for (String line : readme.split("\n")) {
      Matcher name = Pattern.compile("`(\\w+)`").matcher(line);
      while (line.startsWith("|") && name.find()) {
        if (!told.add(name.group(1))) fail(name.group(1) + " stands twice in its table");
      }
    }
    Set<String> face = new TreeSet<>();
    for (Method m : TrackVotes.class.getDeclaredMethods()) if (Modifier.isPublic(m.getModifiers())) face.add(m.getName());
    if (!told.equals(face)) fail("its table has " + told + ", the face is " + face);
  }
}
