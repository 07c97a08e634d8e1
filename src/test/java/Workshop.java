import java.io.IOException;
import java.nio.file.Files;
import java.nio.file.Path;
import java.util.Comparator;
import java.util.List;
import java.util.stream.Stream;

/** A copy of the project in main, with shared beside it, where commands can be tried. */
final class Workshop {
  private Workshop() {}

  static Path make() throws IOException {
    Path room = Files.createTempDirectory("workshop");
    copy(Path.of(".ci"), room.resolve("main/.ci"));
    copy(Path.of("src"), room.resolve("main/src"));
    copy(Path.of("../shared/tests"), room.resolve("shared/tests"));
    return room;
  }

  static void clear(Path room) throws IOException {
    for (Path p : below(room, Comparator.reverseOrder())) Files.delete(p);
  }

  /** The exit code, and all that was printed. */
  static String[] run(Path where, String commands) throws IOException, InterruptedException {
    Process p = new ProcessBuilder("sh", "-e", "-c", commands).directory(where.toFile()).redirectErrorStream(true).start();
    p.getOutputStream().close();
    String told = new String(p.getInputStream().readAllBytes());
    return new String[] {"" + p.waitFor(), told};
  }

  private static void copy(Path from, Path to) throws IOException {
    for (Path p : below(from, Comparator.naturalOrder())) {
      Path target = to.resolve(from.relativize(p).toString());
      if (Files.isDirectory(p)) {
        // made anew, not copied: what is shared may not be written to, its copy must be
        Files.createDirectories(target);
      } else {
        Files.copy(p, target);
      }
    }
  }

  private static List<Path> below(Path top, Comparator<Path> order) throws IOException {
    try (Stream<Path> all = Files.walk(top)) {
      return all.sorted(order).toList();
    }
  }
}
