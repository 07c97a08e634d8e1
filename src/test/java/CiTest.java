import java.io.IOException;
import java.nio.file.Files;
import java.nio.file.Path;

/** .ci/run, tried on a small project: it runs all tests, the project's and the shared ones, and fails if one fails. */
public final class CiTest {
  private static final Check check = new Check("CiTest");
  private static final String OWN = "main/src/test/java/", SHARED = "shared/tests/";

  public static void main(String[] args) throws IOException, InterruptedException {
    passes("nothing is wrong");
    fails("a test of the project fails", OWN + "BadTest.java", test("BadTest", 1));
    fails("a shared test fails", SHARED + "BadRuns.java", test("BadRuns", 1));
    fails("a test of the project throws", OWN + "BadTest.java", test("BadTest", 0).replace("System.exit(0)", "throw new Error()"));
    fails("a test of the project can't be compiled", OWN + "BadTest.java", "public class BadTest {");
    fails("a shared test can't be compiled", SHARED + "BadRuns.java", "public class BadRuns {");
    fails("the class can't be compiled", "main/src/main/java/ChildCoins.java", "public class ChildCoins {");
    check.end();
  }

  private static String test(String name, int code) {
    return "public class " + name + " { public static void main(String[] a) {\n  int bad = ChildCoins.BAD;\n"
        + "  System.out.println(\"" + name + " runs\");\n  System.exit(" + code + ");\n} }\n";
  }

  private static Path project() throws IOException {
    Path room = Workshop.make();
    for (String place : new String[] {OWN, SHARED}) {
      Workshop.clear(room.resolve(place));
      Files.createDirectories(room.resolve(place));
    }
    for (String name : new String[] {"FirstTest", "LastTest"}) Files.writeString(room.resolve(OWN + name + ".java"), test(name, 0));
    for (String name : new String[] {"ARuns", "ZRuns"}) Files.writeString(room.resolve(SHARED + name + ".java"), test(name, 0));
    return room;
  }

  private static void passes(String title) throws IOException, InterruptedException {
    Path room = project();
    String[] told = Workshop.run(room.resolve("main"), ".ci/run");
    check.due(title + ": exit code, " + told[1], Long.parseLong(told[0]), 0);
    for (String name : new String[] {"FirstTest", "LastTest", "ARuns", "ZRuns"}) {
      check.due(name + " is run", told[1].contains(name + " runs") ? 1 : 0, 1);
    }
    Workshop.clear(room);
  }

  private static void fails(String title, String file, String text) throws IOException, InterruptedException {
    Path room = project();
    Files.writeString(room.resolve(file), text);
    String[] told = Workshop.run(room.resolve("main"), ".ci/run");
    check.due(title + ": .ci/run passes, " + told[1], told[0].equals("0") ? 1 : 0, 0);
    Workshop.clear(room);
  }
}
