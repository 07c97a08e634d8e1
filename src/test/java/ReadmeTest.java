import java.io.IOException;
import java.lang.reflect.Method;
import java.lang.reflect.Modifier;
import java.nio.file.Files;
import java.nio.file.Path;
import java.util.ArrayList;
import java.util.List;
import java.util.Set;
import java.util.TreeSet;
import java.util.regex.Matcher;
import java.util.regex.Pattern;

/** What README.md says holds as it is written there: its program, its calls with their answers, its commands, its list of tests. */
public final class ReadmeTest {
  private static final Check check = new Check("ReadmeTest");
  private static final Pattern CALL = Pattern.compile("\\s*(x\\.(\\w+)\\(.*\\));\\s*// ([-\\w]+)(:.*)?");
  private static final Pattern PRINTED = Pattern.compile("\\s*System\\.out\\.println\\(.*\\);\\s*// (-?\\d+)(:.*)?");

  public static void main(String[] args) throws IOException, InterruptedException {
    String readme = Files.readString(Path.of("README.md"));
    List<String> code = blocks(readme, "java");
    Path room = Workshop.make();
    try {
      String program = code.remove(0);
      Files.writeString(room.resolve("main/Example.java"), program);
      callsAndAnswers(room, code);
      commands(room, blocks(readme, "sh"), program);
    } finally {
      Workshop.clear(room);
    }
    listOfTests(readme);
    check.end();
  }

  private static List<String> blocks(String readme, String language) {
    List<String> all = new ArrayList<>();
    Matcher m = Pattern.compile("(?ms)^```" + language + "\n(.*?)^```$").matcher(readme);
    while (m.find()) all.add(m.group(1));
    return all;
  }

  /** All blocks become one program that tells each call with what it answered and what the page says. */
  private static void callsAndAnswers(Path room, List<String> blocks) throws IOException, InterruptedException {
    StringBuilder s = new StringBuilder("public class Calls extends Constants {\n"
        + "static void due(String call, long got, long said) { System.out.println(call + \"\\t\" + got + \"\\t\" + said); }\n"
        + "public static void main(String[] args) {\n");
    Set<String> shown = new TreeSet<>();
    int calls = 0;
    for (String line : String.join("", blocks).split("\n")) {
      Matcher m = CALL.matcher(line);
      if (m.matches()) {
        s.append("due(\"").append(m.group(1)).append("\", ").append(m.group(1)).append(", ").append(m.group(3)).append(");\n");
        shown.add(m.group(2));
        calls++;
      } else {
        check.due("a call without its answer: " + line, line.strip().startsWith("x.") ? 1 : 0, 0);
        s.append(line).append('\n');
      }
    }
    s.append("}}\nclass Constants {\n");
    for (String name : List.of("BAD", "STATE", "FULL", "NONE", "NO")) s.append("static final int " + name + " = ChildCoins." + name + ";\n");
    Files.writeString(room.resolve("main/Calls.java"), s.append("}\n").toString());
    String[] told = Workshop.run(room.resolve("main"), "javac -d calls src/main/java/ChildCoins.java Calls.java && java -cp calls Calls");
    check.due("the calls of README.md: exit code, " + told[1], Long.parseLong(told[0]), 0);
    String[] rows = told[1].split("\n");
    check.due("calls that were made", rows.length, calls);
    for (String row : rows) {
      String[] cells = row.split("\t");
      if (cells.length == 3) check.due(cells[0], Long.parseLong(cells[1]), Long.parseLong(cells[2]));
    }
    for (Method m : ChildCoins.class.getDeclaredMethods()) {
      if (Modifier.isPublic(m.getModifiers())) check.due("README.md shows " + m.getName(), shown.contains(m.getName()) ? 1 : 0, 1);
    }
  }

  /** .ci/run is running right now, and CiTest asks more of it; every other command is run as it stands. */
  private static void commands(Path room, List<String> blocks, String program) throws IOException, InterruptedException {
    StringBuilder due = new StringBuilder();
    for (String line : program.split("\n")) {
      Matcher m = PRINTED.matcher(line);
      if (m.matches()) due.append(m.group(1)).append('\n');
      else check.due("a line without its answer: " + line, line.contains("println") ? 1 : 0, 0);
    }
    check.due("README.md names .ci/run", blocks.contains(".ci/run\n") ? 1 : 0, 1);
    check.due(".ci/run can be run", Files.isExecutable(Path.of(".ci/run")) ? 1 : 0, 1);
    check.due("blocks of commands", blocks.size(), 4);
    for (String block : blocks) {
      if (block.equals(".ci/run\n")) continue;
      String[] told = Workshop.run(room.resolve("main"), block);
      check.due(block + told[1] + "exit code", Long.parseLong(told[0]), 0);
      if (!block.contains("Example")) continue;
      check.due("Example tells " + told[1] + " and not " + due, told[1].equals(due.toString()) ? 1 : 0, 1);
    }
  }

  private static void listOfTests(String readme) throws IOException {
    Set<String> named = new TreeSet<>();
    Matcher m = Pattern.compile("\\b\\w+Test\\b").matcher(readme);
    while (m.find()) named.add(m.group());
    Set<String> there = new TreeSet<>();
    try (var files = Files.list(Path.of("src/test/java"))) {
      files.map(f -> f.getFileName().toString()).filter(f -> f.endsWith("Test.java")).forEach(f -> there.add(f.replace(".java", "")));
    }
    check.due("README.md names " + named + ", there are " + there, named.equals(there) ? 1 : 0, 1);
  }
}
