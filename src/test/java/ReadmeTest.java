import java.io.IOException;
import java.nio.file.Files;
import java.nio.file.Path;
import java.util.ArrayList;
import java.util.List;
import java.util.regex.Matcher;
import java.util.regex.Pattern;

/** The code of README.md compiles, runs and answers as it says, and so do its commands. */
public final class ReadmeTest {
  /** A declared variable perhaps, an expression, and what it answers, up to a colon. */
  private static final Pattern ANSWERED =
      Pattern.compile("\\s*(?:int (\\w+) = )?(.+?);\\s*// (.+?)(?:: .*)?");

  public static void main(String[] args) throws Exception {
    List<String> pieces = blocks("java");
    List<String> commands = blocks("sh");
    Check.same("README.md shows code", pieces.isEmpty(), false);
    Check.same("README.md shows commands", commands.isEmpty(), false);
    Path place = Files.createTempDirectory("readme");
    try {
      answers(place, pieces);
      commands(place, pieces, commands);
    } finally {
      run(place.getParent(), List.of("rm", "-rf", place.toString()));
    }
    Check.end();
  }

  private static List<String> blocks(String language) throws IOException {
    String readme = Files.readString(Path.of("README.md"));
    Matcher block = Pattern.compile("(?ms)^```" + language + "\n(.*?)^```$").matcher(readme);
    List<String> found = new ArrayList<>();
    while (block.find()) {
      found.add(block.group(1));
    }
    return found;
  }

  /** The pieces once more, with a check in place of each line that says what it answers. */
  private static void answers(Path place, List<String> pieces) throws Exception {
    StringBuilder body = new StringBuilder();
    for (String line : String.join("", pieces).split("\n")) {
      body.append(checked(line)).append("\n");
    }
    Path source = place.resolve("Answers.java");
    Files.writeString(source, program("Answers", body + "Check.end();\n"));
    String path = System.getProperty("java.class.path");
    Check.same("the code compiles",
        run(place, List.of("javac", "-cp", absolute(path), "-d", ".", source.toString())), 0);
    Check.same("the code answers as it says",
        run(place, List.of("java", "-cp", absolute(path) + ":.", "Answers")), 0);
  }

  private static String checked(String line) {
    Matcher parts = ANSWERED.matcher(line);
    if (!parts.matches()) {
      boolean isSilent = !line.contains("room.") || line.contains("new Writersroom()");
      Check.same("README.md says what is answered: " + line, isSilent, true);
      return line;
    }
    String what = "\"README.md: " + parts.group(2) + "\"";
    String due = "\"" + parts.group(3) + "\"";
    if (parts.group(1) == null) {
      return "Check.same(" + what + ", ReadmeTest.text(Check.outcome(() -> " + parts.group(2) + ")), "
          + due + ");";
    }
    return line.replaceAll("//.*", "") + "Check.same(" + what + ", ReadmeTest.text("
        + parts.group(1) + "), " + due + ");";
  }

  /** As an answer stands in README.md. */
  static String text(Object answer) {
    return answer instanceof Character ? "'" + answer + "'" : String.valueOf(answer);
  }

  private static String program(String name, String body) {
    return "public final class " + name + " {\npublic static void main(String[] args) {\n" + body
        + "}\n}\n";
  }

  /** In a copy of the project, with the pieces, as they stand, in the file that the commands name. */
  private static void commands(Path place, List<String> pieces, List<String> commands)
      throws Exception {
    Path project = Files.createDirectory(place.resolve("main"));
    Files.createSymbolicLink(project.resolve("src"), Path.of("src").toAbsolutePath());
    Files.createSymbolicLink(place.resolve("shared"), Path.of("../shared").toRealPath());
    Files.writeString(project.resolve("Yours.java"), program("Yours", String.join("", pieces)));
    for (String command : commands) {
      if (command.equals("bash .ci/run\n")) {
        Check.same(".ci/run is there", Files.isExecutable(Path.of(".ci/run")), true);
      } else {
        Check.same(command, run(project, List.of("bash", "-ec", command)), 0);
      }
    }
  }

  private static String absolute(String classPath) {
    List<String> parts = new ArrayList<>();
    for (String part : classPath.split(":")) {
      parts.add(Path.of(part).toAbsolutePath().toString());
    }
    return String.join(":", parts);
  }

  /** Returns the exit code; what is printed is shown if it is not 0. */
  private static int run(Path place, List<String> command) throws Exception {
    Process process = new ProcessBuilder(command).directory(place.toFile())
        .redirectErrorStream(true).start();
    String printed = new String(process.getInputStream().readAllBytes());
    int code = process.waitFor();
    if (code != 0) {
      System.out.println(printed);
    }
    return code;
  }
}
