import java.io.IOException;
import java.lang.reflect.Field;
import java.lang.reflect.Method;
import java.lang.reflect.Modifier;
import java.nio.file.Files;
import java.nio.file.Path;
import java.util.ArrayList;
import java.util.Arrays;
import java.util.List;
import java.util.Set;
import java.util.TreeSet;
import java.util.regex.Matcher;
import java.util.regex.Pattern;

/** The public face is the document's and no more; the source keeps to what LANGUAGE.md leaves. */
public final class FaceTest {
  private static final String[] FACE = {
    "int type(int)", "int clear()", "int land()", "int coin(int,int)", "int person(int,int)",
    "int holds(int,int)", "int debt(int,int)", "int pays(int)", "int trades(int,int,int,int)",
    "int loses(int,int)", "int finds(int,int)", "int passes(int,int)", "int undo()", "int now(int)",
    "int pieces(int,int)", "int order(int)", "int lender(int)", "int corner(int)",
    "int odds(int,int,int)", "int took(int)", "int forget()", "int years(int)", "int mark(int,int)",
    "int keep(int)", "int back(int)", "int count(int)", "long trace()"};
  private static final Set<String> LIBRARY = Set.of("Integer.bitCount", "Math.min", "System.arraycopy");
  private static final String[] RULED_OUT = {
    "\\b(throw|throws|try|catch|synchronized|assert|import|package)\\b", "->", "::", "\\bequals\\b",
    "\\bhashCode\\b", "\\btoString\\b", "\\w*Exact\\b", "\\bprotected\\b", "[^\\x01-\\x7f]"};

  public static void main(String[] args) throws IOException {
    Check check = new Check("FaceTest");
    check.due("BAD", ChildCoins.BAD, -1);
    check.due("STATE", ChildCoins.STATE, -2);
    check.due("FULL", ChildCoins.FULL, -3);
    check.due("NONE", ChildCoins.NONE, -9);
    check.due("NO", ChildCoins.NO, -1000000);
    members(check);
    form(check);
    source(check);
    library(check);
    lengths(check);
    check.end();
  }

  private static void members(Check check) {
    Class<?> type = ChildCoins.class;
    check.due("public and final", type.getModifiers() & (Modifier.PUBLIC | Modifier.FINAL), Modifier.PUBLIC | Modifier.FINAL);
    check.due("one constructor", type.getDeclaredConstructors().length, 1);
    Set<String> open = new TreeSet<>();
    Set<String> openNames = new TreeSet<>();
    for (Method m : type.getDeclaredMethods()) {
      if (Modifier.isPrivate(m.getModifiers()) || m.isSynthetic()) continue;
      StringBuilder s = new StringBuilder(m.getReturnType() + " " + m.getName() + "(");
      for (int i = 0; i < m.getParameterCount(); i++) s.append(i > 0 ? "," : "").append(m.getParameterTypes()[i]);
      open.add(s.append(")").toString());
      openNames.add(m.getName());
    }
    Set<String> want = new TreeSet<>(Arrays.asList(FACE));
    if (!open.equals(want)) check.due("the methods are " + open, 0, 1);
    for (Field f : type.getDeclaredFields()) {
      if (!Modifier.isPrivate(f.getModifiers()) && !Set.of("BAD", "STATE", "FULL", "NONE", "NO").contains(f.getName())) check.due("field " + f, 1, 0);
    }
    for (Method m : type.getDeclaredMethods()) {
      if (Modifier.isPrivate(m.getModifiers()) && openNames.contains(m.getName())) check.due("private method " + m, 1, 0);
    }
    for (Class<?> inner : type.getDeclaredClasses()) {
      if (!Modifier.isStatic(inner.getModifiers())) check.due("class " + inner, 1, 0);
      for (Method m : inner.getDeclaredMethods()) {
        if (openNames.contains(m.getName())) check.due("private method " + m, 1, 0);
      }
    }
  }

  /** Rules 1, 2, 3, 5, 11: what the classes are made of. */
  private static void form(Check check) {
    List<Class<?>> classes = new ArrayList<>(List.of(ChildCoins.class.getDeclaredClasses()));
    classes.add(ChildCoins.class);
    check.due("classes: " + classes.size() + ", more than 12", classes.size() > 12 ? 1 : 0, 0);
    for (Class<?> type : classes) {
      int fields = 0;
      for (Field f : type.getDeclaredFields()) {
        boolean isStatic = Modifier.isStatic(f.getModifiers());
        if (!isStatic) fields++;
        boolean wrong = isStatic ? !Modifier.isFinal(f.getModifiers()) || !Set.of(int.class, long.class, boolean.class).contains(f.getType())
            : !mayBeField(f.getType(), classes);
        check.due("field " + f, wrong ? 1 : 0, 0);
      }
      check.due(type + " has " + fields + " fields, more than 20", fields > 20 ? 1 : 0, 0);
      for (Method m : type.getDeclaredMethods()) check.due(m + " takes more than 7", m.getParameterCount() > 7 ? 1 : 0, 0);
      check.due(type + " has classes of its own", type != ChildCoins.class && type.getDeclaredClasses().length > 0 ? 1 : 0, 0);
    }
  }

  private static boolean mayBeField(Class<?> type, List<Class<?>> classes) {
    Class<?> part = type.isArray() ? type.getComponentType() : type;
    return Set.of(int.class, long.class, boolean.class).contains(part) || classes.contains(part);
  }

  private static String code() throws IOException {
    String source = Files.readString(Path.of("src/main/java/ChildCoins.java"));
    return source.replaceAll("(?s)/\\*.*?\\*/", " ").replaceAll("//[^\n]*", " ");
  }

  private static void source(Check check) throws IOException {
    String code = code();
    for (String rule : RULED_OUT) {
      Matcher m = Pattern.compile(rule).matcher(code);
      if (m.find()) check.due("'" + m.group() + "' in the source", 1, 0);
    }
    check.due("initialiser block", Pattern.compile("\\bstatic\\s*\\{").matcher(code).find() ? 1 : 0, 0);
  }

  /** Rule 4: of the library nothing but these; a name with a small letter behind its first is a class's. */
  private static void library(Check check) throws IOException {
    Set<String> own = new TreeSet<>(Set.of("ChildCoins"));
    for (Class<?> inner : ChildCoins.class.getDeclaredClasses()) own.add(inner.getSimpleName());
    Matcher m = Pattern.compile("\\b([A-Z]\\w*[a-z]\\w*)(\\.\\w+)?").matcher(code());
    while (m.find()) {
      boolean known = own.contains(m.group(1)) || LIBRARY.contains(m.group());
      check.due(m.group() + " of the library", known ? 0 : 1, 0);
    }
  }

  /** Rule 11: a method is short; its last line is a brace as far in as its first. */
  private static void lengths(Check check) throws IOException {
    String[] lines = Files.readString(Path.of("src/main/java/ChildCoins.java")).split("\n");
    int methods = 0;
    for (int i = 0; i < lines.length; i++) {
      Matcher m = Pattern.compile("( +)(?:public|private)[^=;]*\\) \\{").matcher(lines[i]);
      if (!m.matches()) continue;
      int end = i;
      while (end < lines.length && !lines[end].equals(m.group(1) + "}")) end++;
      check.due(lines[i].strip() + " has " + (end - i + 1) + " lines, more than 60", end - i + 1 > 60 ? 1 : 0, 0);
      methods++;
    }
    check.due("methods were found", methods > FACE.length ? 1 : 0, 1);
  }
}
