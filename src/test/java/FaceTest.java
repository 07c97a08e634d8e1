import java.io.IOException;
import java.lang.reflect.Field;
import java.lang.reflect.Method;
import java.lang.reflect.Modifier;
import java.nio.file.Files;
import java.nio.file.Path;
import java.util.Arrays;
import java.util.Set;
import java.util.TreeSet;
import java.util.regex.Matcher;
import java.util.regex.Pattern;

/** The public face is the document's and no more; the source keeps to what LANGUAGE.md leaves. */
public final class FaceTest {
  private static final String[] FACE = {
    "int type(int)", "int clear()", "int land()", "int coin(int,int)", "int person(int,int)",
    "int holds(int,int)", "int debt(int,int)", "int pays(int)", "int trades(int,int,int,int)",
    "int loses(int,int)", "int finds(int,int)", "int passes(int,int)", "int undo()", "int now(int)",
    "int pieces(int,int)", "int order(int)", "int lender(int)", "int corner(int)",
    "int odds(int,int,int)", "int took(int)", "int forget()", "int years(int)", "int mark(int,int)",
    "int keep(int)", "int back(int)", "int count(int)", "long trace()"};
  private static final String[] RULED_OUT = {
    "\\b(throw|throws|try|catch|synchronized|assert|import|package)\\b", "->", "::", "\\bequals\\b",
    "\\bhashCode\\b", "\\btoString\\b", "\\w*Exact\\b", "\\bprotected\\b", "[^\\x01-\\x7f]"};

  public static void main(String[] args) throws IOException {
    Check check = new Check("FaceTest");
    check.due("BAD", ChildCoins.BAD, -1);
    check.due("STATE", ChildCoins.STATE, -2);
    check.due("FULL", ChildCoins.FULL, -3);
    check.due("NONE", ChildCoins.NONE, -9);
    check.due("NO", ChildCoins.NO, -1000000);
    members(check);
    source(check);
    check.end();
  }

  private static void members(Check check) {
    Class<?> type = ChildCoins.class;
    check.due("public and final", type.getModifiers() & (Modifier.PUBLIC | Modifier.FINAL), Modifier.PUBLIC | Modifier.FINAL);
    check.due("one constructor", type.getDeclaredConstructors().length, 1);
    Set<String> open = new TreeSet<>();
    Set<String> openNames = new TreeSet<>();
    for (Method m : type.getDeclaredMethods()) {
      if (Modifier.isPrivate(m.getModifiers()) || m.isSynthetic()) continue;
      StringBuilder s = new StringBuilder(m.getReturnType() + " " + m.getName() + "(");
      for (int i = 0; i < m.getParameterCount(); i++) s.append(i > 0 ? "," : "").append(m.getParameterTypes()[i]);
      open.add(s.append(")").toString());
      openNames.add(m.getName());
    }
    Set<String> want = new TreeSet<>(Arrays.asList(FACE));
    if (!open.equals(want)) check.due("the methods are " + open, 0, 1);
    for (Field f : type.getDeclaredFields()) {
      if (!Modifier.isPrivate(f.getModifiers()) && !Set.of("BAD", "STATE", "FULL", "NONE", "NO").contains(f.getName())) check.due("field " + f, 1, 0);
    }
    for (Method m : type.getDeclaredMethods()) {
      if (Modifier.isPrivate(m.getModifiers()) && openNames.contains(m.getName())) check.due("private method " + m, 1, 0);
    }
    for (Class<?> inner : type.getDeclaredClasses()) {
      if (!Modifier.isStatic(inner.getModifiers())) check.due("class " + inner, 1, 0);
      for (Method m : inner.getDeclaredMethods()) {
        if (openNames.contains(m.getName())) check.due("private method " + m, 1, 0);
      }
    }
  }

  private static void source(Check check) throws IOException {
    String source = Files.readString(Path.of("src/main/java/ChildCoins.java"));
    String code = source.replaceAll("(?s)/\\*.*?\\*/", " ").replaceAll("//[^\n]*", " ");
    for (String rule : RULED_OUT) {
      Matcher m = Pattern.compile(rule).matcher(code);
      if (m.find()) check.due("'" + m.group() + "' in the source", 1, 0);
    }
  }
}
