import java.io.IOException;
import java.lang.reflect.Constructor;
import java.lang.reflect.Field;
import java.lang.reflect.Method;
import java.lang.reflect.Modifier;
import java.nio.file.Files;
import java.nio.file.Path;
import java.util.ArrayList;
import java.util.List;
import java.util.Map;
import java.util.TreeMap;
import java.util.regex.Matcher;
import java.util.regex.Pattern;

// The face as ../shared/DOC.md has it, held against the class; README.md held against both: it names each call with
// its numbers, each constant with its value, for how many calls an object is used, each test of the project; and the
// answers of its example are those that the class gives.
public final class ReadmeTests {
  private static int wrong = 0;

  private static void hold(boolean holds, String what) {
    if (!holds) { wrong++; System.out.println(what); }
  }

  private static void same(String what, Object got, Object want) {
    hold(got.equals(want), what + " are " + got + ", due are " + want);
  }

  // the first text between a fence of that kind and the next one
  private static String fenced(String page, String kind) {
    String fence = "```" + kind + "\n";
    int from = page.indexOf(fence);
    int to = from < 0 ? -1 : page.indexOf("```", from + fence.length());
    hold(to >= 0, "no text is fenced by ```" + kind);
    return to < 0 ? "" : page.substring(from + fence.length(), to);
  }

  // ---- the document's face

  // calls by name, each with the names of its numbers
  private static Map<String, List<String>> callsOf(String face) {
    Map<String, List<String>> calls = new TreeMap<>();
    Matcher m = Pattern.compile("public int (\\w+)\\(([^)]*)\\);").matcher(face);
    while (m.find()) {
      List<String> names = new ArrayList<>();
      for (String told : m.group(2).split(", ")) if (!told.isEmpty()) names.add(told.replace("int ", ""));
      calls.put(m.group(1), names);
    }
    return calls;
  }

  private static Map<String, Integer> constantsOf(String face) {
    Map<String, Integer> constants = new TreeMap<>();
    Matcher m = Pattern.compile("\\b([A-Z]+) = (-?\\d+)").matcher(face);
    while (m.find()) constants.put(m.group(1), Integer.parseInt(m.group(2)));
    return constants;
  }

  private static void classHasFace(Map<String, List<String>> calls, Map<String, Integer> constants) throws IllegalAccessException {
    Map<String, Integer> takes = new TreeMap<>(), due = new TreeMap<>(), values = new TreeMap<>();
    for (String name : calls.keySet()) due.put(name, calls.get(name).size());
    for (Method m : DotOutlines.class.getDeclaredMethods()) {
      if (Modifier.isPrivate(m.getModifiers())) continue;
      hold(!takes.containsKey(m.getName()), "two methods are named " + m.getName());
      takes.put(m.getName(), m.getParameterCount());
      hold(m.getReturnType() == int.class && Modifier.isPublic(m.getModifiers()) && !Modifier.isStatic(m.getModifiers()), m + " is not as told");
      for (Class<?> type : m.getParameterTypes()) hold(type == int.class, m + " takes another type than int");
    }
    same("the methods and how many numbers they take", takes, due);
    for (Field f : DotOutlines.class.getDeclaredFields()) {
      if (Modifier.isPrivate(f.getModifiers())) continue;
      int is = f.getModifiers();
      boolean asTold = f.getType() == int.class && Modifier.isPublic(is) && Modifier.isStatic(is) && Modifier.isFinal(is);
      hold(asTold, f + " is not as told");
      if (asTold) values.put(f.getName(), f.getInt(null));
    }
    same("the constants", values, constants);
    Constructor<?>[] made = DotOutlines.class.getDeclaredConstructors();
    hold(made.length == 1 && made[0].getParameterCount() == 0 && Modifier.isPublic(made[0].getModifiers()), "the constructor is not as told");
  }

  // ---- README.md

  private static void readmeTellsFace(String readme, Map<String, List<String>> calls, Map<String, Integer> constants) {
    for (String name : calls.keySet()) {
      String call = name + "(" + String.join(", ", calls.get(name)) + ")";
      hold(readme.contains("\n| `" + call + "` | "), "README.md does not say what " + call + " is for");
    }
    Matcher rows = Pattern.compile("\n\\| `(\\w+)\\(").matcher(readme);
    int many = 0;
    for (; rows.find(); many++) hold(calls.containsKey(rows.group(1)), "README.md has a call more: " + rows.group(1));
    hold(many == calls.size(), "README.md has " + many + " rows of calls, due are " + calls.size());
    for (String name : constants.keySet()) {
      String row = "| `" + name + "` | " + constants.get(name) + " |", words = "`" + name + "` (" + constants.get(name) + ")";
      hold(readme.contains(row) || readme.contains(words), "README.md does not say what " + name + " is");
    }
  }

  private static void readmeTellsUse(String readme) throws IOException {
    hold(readme.contains("at most 512 calls"), "README.md does not say for how many calls an object is used");
    hold(readme.contains("`bash .ci/run`"), "README.md does not say how to run the tests");
    try (var files = Files.list(Path.of("src/test/java"))) {
      files.forEach(file -> {
        String name = file.getFileName().toString().replace(".java", "");
        hold(readme.contains("\n- `" + name + "`: "), "README.md does not say what " + name + " tests");
      });
    }
  }

  // each line of the example that asks the object tells the answer first in its comment
  private static void exampleHolds(String example) throws ReflectiveOperationException {
    DotOutlines d = new DotOutlines();
    Matcher tape = Pattern.compile("String tape = \"([^\"]*)\";").matcher(example);
    hold(tape.find(), "the example has no tape");
    String bytes = tape.group(1);
    for (int k = 0; k < bytes.length(); k++) d.feed(bytes.charAt(k));
    Matcher asks = Pattern.compile("\nd\\.(\\w+)\\(([^)]*)\\); *// (-?\\d+):").matcher(example);
    int asked = 0;
    for (; asks.find(); asked++) {
      int got = ask(d, asks.group(1), asks.group(2));
      hold(got == Integer.parseInt(asks.group(3)), "the example's " + asks.group(1) + "(" + asks.group(2) + ") answered " + got);
    }
    hold(asked == example.split("\nd\\.").length - 1, "the example has a call without an answer");
    hold(asked >= 10, "the example asks " + asked + " times only");
  }

  private static int ask(DotOutlines d, String name, String numbers) throws ReflectiveOperationException {
    List<Object> values = new ArrayList<>();
    for (String number : numbers.split(", ")) if (!number.isEmpty()) values.add(Integer.parseInt(number));
    Class<?>[] types = new Class<?>[values.size()];
    java.util.Arrays.fill(types, int.class);
    return (int) DotOutlines.class.getMethod(name, types).invoke(d, values.toArray());
  }

  public static void main(String[] args) throws IOException, ReflectiveOperationException {
    String face = fenced(Files.readString(Path.of("../shared/DOC.md")), "java");
    String readme = Files.readString(Path.of("README.md"));
    Map<String, List<String>> calls = callsOf(face);
    Map<String, Integer> constants = constantsOf(face);
    hold(calls.size() == 27 && constants.size() == 4, "the document's face has " + calls.size() + " calls, " + constants.size() + " constants");
    classHasFace(calls, constants);
    readmeTellsFace(readme, calls, constants);
    readmeTellsUse(readme);
    exampleHolds(fenced(readme, "java"));
    System.out.println(wrong == 0 ? "the face is the document's, and README.md tells it" : wrong + " things are not as told");
    if (wrong != 0) System.exit(1);
  }
}
