import java.io.IOException;
import java.io.UncheckedIOException;
import java.lang.reflect.Method;
import java.nio.charset.StandardCharsets;
import java.nio.file.Files;
import java.nio.file.Path;
import java.util.ArrayList;
import java.util.Comparator;
import java.util.List;
import java.util.Set;
import java.util.TreeSet;
import java.util.regex.Matcher;
import java.util.regex.Pattern;
import java.util.stream.Stream;

/** What README.md tells works as it is written there: its example, its commands, its lists of calls and tests. */
public final class ReadmeTest {
  private static final Pattern BLOCK = Pattern.compile("(?ms)^```(\\w+)\n(.*?)^```$");
  private static final Pattern CLASS = Pattern.compile("public final class (\\w+)");
  private static final Path TESTS = Path.of("src/test/java");

  public static void main(String[] args) throws Exception {
    String readme = Files.readString(Path.of("README.md"));
    Path project = Files.createTempDirectory("readme");
    try {
      copySources(project);
      playBlocks(blocks(readme), project);
    } finally {
      remove(project);
    }
    testsAreListed(readme);
    callsAreListed(readme);
    Check.end("ReadmeTest");
  }

  /** Each block's language and text, in turn. */
  private static List<String[]> blocks(String readme) {
    List<String[]> all = new ArrayList<>();
    Matcher block = BLOCK.matcher(readme);
    while (block.find()) {
      all.add(new String[] {block.group(1), block.group(2)});
    }
    return all;
  }

  private static void playBlocks(List<String[]> blocks, Path project) throws Exception {
    Set<String> languages = new TreeSet<>();
    String printed = "";
    for (String[] block : blocks) {
      languages.add(block[0]);
      if (block[0].equals("java")) {
        Matcher name = CLASS.matcher(block[1]);
        Check.holds("the example is a class", name.find());
        Files.writeString(project.resolve(name.group(1) + ".java"), block[1]);
      } else if (block[0].equals("sh")) {
        printed = command(block[1], project);
      } else {
        Check.holds("\"It prints\" is so:\n" + printed, printed.equals(block[1]));
      }
    }
    Check.holds("an example, commands and what is printed: " + languages, languages.equals(Set.of("java", "sh", "text")));
  }

  /** What the commands print. .ci/run runs this test, so that it can be run is all that is looked at. */
  private static String command(String lines, Path project) throws Exception {
    if (lines.equals(".ci/run\n")) {
      Check.holds(".ci/run can be run", Files.isExecutable(Path.of(".ci/run")));
      return "";
    }
    Process process = new ProcessBuilder("sh", "-e", "-c", lines)
        .directory(project.toFile()).redirectError(ProcessBuilder.Redirect.INHERIT).start();
    process.getOutputStream().close();
    String printed = new String(process.getInputStream().readAllBytes(), StandardCharsets.UTF_8);
    Check.due("exit code of\n" + lines + printed, process.waitFor(), 0);
    return printed;
  }

  private static void testsAreListed(String readme) throws IOException {
    Set<String> listed = new TreeSet<>();
    Matcher row = Pattern.compile("(?m)^\\| (\\w+Test) \\|").matcher(readme);
    while (row.find()) {
      listed.add(row.group(1));
    }
    Set<String> there = new TreeSet<>();
    try (Stream<Path> files = Files.list(TESTS)) {
      files.map(file -> file.getFileName().toString()).filter(name -> name.endsWith("Test.java"))
          .forEach(name -> there.add(name.substring(0, name.length() - ".java".length())));
    }
    Check.holds("the tests that are listed, " + listed + ", are those that there are, " + there, listed.equals(there));
  }

  private static void callsAreListed(String readme) {
    for (Method method : SixtyOneCabs.class.getDeclaredMethods()) {
      if (java.lang.reflect.Modifier.isPublic(method.getModifiers())) {
        Check.holds("listed: " + method.getName(), readme.contains("`" + method.getName() + "()`"));
      }
    }
  }

  private static void copySources(Path project) throws IOException {
    try (Stream<Path> files = Files.walk(Path.of("src"))) {
      files.forEach(file -> {
        try {
          Files.copy(file, project.resolve(file));
        } catch (IOException e) {
          throw new UncheckedIOException(e);
        }
      });
    }
  }

  private static void remove(Path directory) throws IOException {
    try (Stream<Path> files = Files.walk(directory)) {
      files.sorted(Comparator.reverseOrder()).forEach(file -> file.toFile().delete());
    }
  }
}
