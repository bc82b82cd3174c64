import java.io.IOException;
import java.lang.reflect.Constructor;
import java.lang.reflect.Field;
import java.lang.reflect.Method;
import java.lang.reflect.Modifier;
import java.nio.file.Files;
import java.nio.file.Path;
import java.util.ArrayList;
import java.util.Arrays;
import java.util.List;
import java.util.Set;
import java.util.TreeSet;
import java.util.regex.Matcher;
import java.util.regex.Pattern;

// The rules of LANGUAGE.md that can be seen from the class and from its text.
public final class LanguageTests {
  private static int wrong = 0;

  private static void hold(int rule, boolean holds, String what) {
    if (!holds) { wrong++; System.out.println("rule " + rule + ": " + what); }
  }

  private static final String FACE = "all(int) best(int,int) border(int,int) borders() corner(int,int,int) count(int) "
      + "differ(int,int) dot(int,int) fault() feed(int) filled(int,int,int,int) flip(int,int) frame(int,int,int,int,int) "
      + "image(int) inside(int,int,int) joined(int) longest(int,int) off(int,int,int) past(int,int) picture() "
      + "point(int,int,int,int) restore(int) sharp(int) straight(int,int,int) undo() vertex(int,int,int) wrong(int)";

  private static String told(Method m) {
    List<String> types = new ArrayList<>();
    for (Class<?> type : m.getParameterTypes()) types.add(type.getSimpleName());
    return m.getName() + "(" + String.join(",", types) + ")";
  }

  private static void face() {
    Class<?> c = DotOutlines.class;
    hold(1, Modifier.isPublic(c.getModifiers()) && Modifier.isFinal(c.getModifiers()), "the class is public and final");
    Set<String> seen = new TreeSet<>();
    for (Method m : c.getDeclaredMethods()) {
      if (Modifier.isPrivate(m.getModifiers())) continue;
      seen.add(told(m));
      hold(1, Modifier.isPublic(m.getModifiers()) && !Modifier.isStatic(m.getModifiers()) && m.getReturnType() == int.class, told(m));
    }
    hold(1, seen.equals(new TreeSet<>(Arrays.asList(FACE.split(" ")))), "the methods are " + seen);
    Constructor<?>[] made = c.getDeclaredConstructors();
    hold(1, made.length == 1 && made[0].getParameterCount() == 0 && Modifier.isPublic(made[0].getModifiers()), "one public constructor");
    Set<String> constants = new TreeSet<>();
    for (Field f : c.getDeclaredFields()) if (!Modifier.isPrivate(f.getModifiers())) constants.add(f.getName());
    hold(1, constants.equals(new TreeSet<>(List.of("NONE", "BAD", "STATE", "FULL"))), "the constants are " + constants);
  }

  private static void insides() {
    Class<?>[] classes = DotOutlines.class.getDeclaredClasses();
    Set<String> names = new TreeSet<>();
    for (String method : FACE.split(" ")) names.add(method.substring(0, method.indexOf('(')));
    hold(11, classes.length + 1 <= 12, "there are " + (classes.length + 1) + " classes");
    for (Class<?> c : classes) {
      hold(1, Modifier.isStatic(c.getModifiers()) && !Modifier.isPublic(c.getModifiers()) && !Modifier.isProtected(c.getModifiers()), c + " is static and not public");
      for (Method m : c.getDeclaredMethods()) hold(1, !names.contains(m.getName()), c + " has a method " + m.getName());
      fieldsAndMethods(c);
    }
    for (Method m : DotOutlines.class.getDeclaredMethods())
      hold(1, !Modifier.isPrivate(m.getModifiers()) || !names.contains(m.getName()), "a private method " + m.getName());
    fieldsAndMethods(DotOutlines.class);
  }

  private static void fieldsAndMethods(Class<?> c) {
    int own = 0;
    for (Field f : c.getDeclaredFields()) {
      if (Modifier.isStatic(f.getModifiers())) hold(5, Modifier.isFinal(f.getModifiers()), f + " is final");
      else own++;
    }
    hold(11, own <= 20, c + " has " + own + " fields");
    for (Method m : c.getDeclaredMethods()) hold(11, m.getParameterCount() <= 7, m + " takes at most seven");
  }

  private static void never(int rule, String code, String pattern) {
    Matcher m = Pattern.compile(pattern).matcher(code);
    if (m.find()) hold(rule, false, "the text has '" + m.group() + "'");
  }

  private static void text() throws IOException {
    String all = Files.readString(Path.of("src/main/java/DotOutlines.java"));
    for (int k = 0; k < all.length(); k++) {
      char sign = all.charAt(k);
      if (sign > 126 || sign < 32 && sign != '\n') { hold(4, false, "a sign of number " + (int) sign); break; }
    }
    String code = all.replaceAll("(?s)/\\*.*?\\*/", "").replaceAll("//[^\n]*", "");
    never(6, code, "\\b(throw|throws|try|catch|finally|synchronized|assert)\\b");
    never(2, code, "->|::");
    never(2, code, "new\\s+\\w+(<\\w*>)?\\([^)]*\\)\\s*\\{");
    never(3, code, "\\b(import|package|Object|Long\\s+\\w|var|double|float|Map|Set|HashMap|Optional|Stream)\\b");
    never(4, code, "Exact\\b|\\bequals\\(|hashCode|toString|getClass");
    never(5, code, "static\\s*\\{");
    never(9, code, "while\\s*\\(true\\)|for\\s*\\(;;\\)|\\bwhile\\b");
    never(13, code, "System\\.(?!arraycopy)|Random|Thread");
    Matcher library = Pattern.compile("\\b(Math|Long|Integer|Arrays)\\.(\\w+)").matcher(code);
    while (library.find()) hold(4, Set.of("max", "min", "abs", "bitCount").contains(library.group(2)), "uses " + library.group());
    methodLengths(code);
  }

  // a method begins with a line that ends in ") {" and is no statement, and ends with a brace as far in
  private static void methodLengths(String code) {
    String[] lines = code.split("\n");
    Pattern head = Pattern.compile("^( {4}| {8})(?=\\S)(?!(if|for|switch|return)\\b)[\\w\\[\\] ]+\\(.*\\) \\{$");
    for (int n = 0; n < lines.length; n++) {
      Matcher m = head.matcher(lines[n]);
      if (!m.matches()) continue;
      int end = n;
      while (end < lines.length && !lines[end].equals(m.group(1) + "}")) end++;
      hold(11, end - n < 60, "a method of " + (end - n) + " lines: " + lines[n].trim());
    }
  }

  // Calls make nothing: what an object needs is made with it, or with the first borders it finds.
  private static void nothingMade() {
    com.sun.management.ThreadMXBean bean = (com.sun.management.ThreadMXBean) java.lang.management.ManagementFactory.getThreadMXBean();
    DotOutlines d = new DotOutlines();
    long made = 0;
    for (int round = 0; round < 3; round++) {
      long before = bean.getCurrentThreadAllocatedBytes();
      useAll(d);
      made = bean.getCurrentThreadAllocatedBytes() - before;
    }
    hold(12, made < 4096, "a round of calls made " + made + " bytes");
  }

  private static final String BOARD = "d88;xoxoxoxo;oxoxoxox;xoxoxoxo;oxoxoxox;xoxoxoxo;oxoxoxox;xoxoxoxo;oxoxoxox;";

  private static void useAll(DotOutlines d) {
    for (int k = 0; k < BOARD.length(); k++) d.feed(BOARD.charAt(k));
    d.picture();
    for (int joined = 0; joined < 2; joined++) {
      d.joined(joined);
      d.borders(); d.border(0, 5); d.corner(0, 9, 0); d.inside(0, 0, 0); d.straight(0, 0, 2); d.off(0, 0, 2); d.longest(0, 0);
      d.best(0, 2); d.best(0, 3); d.vertex(0, 0, 1); d.past(0, 0); d.point(0, 0, 1, 0); d.filled(0, 1, 0, 0); d.differ(0, 1);
      d.wrong(0); d.wrong(1); d.all(2); d.image(0); d.flip(0, 0); d.frame(0, 0, 1, 1, 2); d.sharp(4); d.undo(); d.restore(0); d.count(0);
    }
  }

  public static void main(String[] args) throws IOException {
    face();
    insides();
    text();
    nothingMade();
    System.out.println(wrong == 0 ? "the rules hold" : wrong + " breaches of the rules");
    if (wrong != 0) System.exit(1);
  }
}
